set_option maxHeartbeats 4000000 in
set_option maxRecDepth 100000 in
theorem c_X6_byMoved_57 (l : Launch) (dC : Nat → ClassId) (dI : Nat → Nat → Nat) (cB cI cJ cZ cP cQ : ClassId) (ad : Nat → Nat) (sz : Nat) : Met l yX6_byMoved wsX6_byMoved ({ frames := 2, cells := 0, slots := 0, locals := 48 } : Room) (zPc [.ref (ad 38)] (dC, dI) (zT cB cI cJ cZ cP cQ) [(ad 38, .inr (6, xf38 ad))] sz [] []) (va_Ql (fun r _ => (fun r => r = (-9000000000000000000)) r) (zB (dC, dI) (zT cB cI cJ cZ cP cQ) (fun _ : Unit => [(ad 38, .inr (6, xf38 ad))]) [(ad 38, .inr (6, xf38 ad))] sz) (va_A [(ad 38, .inr (6, xf38 ad))] sz)) 0 0 (va_A [(ad 38, .inr (6, xf38 ad))] sz) := by
  refine z_enter (cc := cX6_byMoved) (maxL := 1) (ret := (some .long)) (by decide) rfl (Nat.le_of_ble_eq_true rfl) ?_
  intro p e s m below meth c A ls Q H locs hx hb hr hml hown hts hlocks hin hK hP hD hA hX hS hAe hQ hl
  have hown : s.vm.findClass RX6 = some m.cls := hown
  have hl : lv_has ls 1 [(0, .ref (ad 38))] := hl
  refine lv_aload_n hx hb dX6_byMoved_0 rfl (lv_at hl 0 rfl) ?_
  refine lv_lconst (v := 0) hx hb dX6_byMoved_1 (by decide) ?_
  refine z_finl (w' := fun (u1 : Unit) => [(ad 38, .inr (6, xf38 ad))]) (va_runV (As := [.long 0]) (rest := []) ⟨hx, hb, hml, hown, hts⟩ (c_X6_byMovedLess_57 l dC dI cB cI cJ cZ cP cQ ad H.size) (cwV 1 hts gX6_byMoved_X6_byMovedLess rfl rfl rfl (by decide +kernel) ⟨Nat.le_of_ble_eq_true rfl, Nat.le_of_ble_eq_true rfl⟩) (z_pV (ci := 6) hK hP hD zX_nil [0] (by decide) rfl rfl 0 rfl) rfl rfl hl.1 rfl (lv_room (Nat.le_of_ble_eq_true rfl)) dX6_byMoved_2 ⟨Nat.le_of_ble_eq_true rfl, Nat.le_of_ble_eq_true rfl⟩) hP hD hS hA [0] [] [0] rfl rfl (by decide) (by decide) (fun _ => rfl) (by decide) (fun r2 u1 H locs hp3 hP hD hS => ?_)
  have hP : va_P (dC, dI) vwCl [(ad 38, .inr (6, xf38 ad))] H := hP
  have hD : va_D A [(ad 38, .inr (6, xf38 ad))] := hD
  refine W.widen (k := 0) (n := 0) (by decide) (by decide) ?_
  obtain rfl : r2 = (-9000000000000000000) := hp3
  exact z_lret () hx hb hr hlocks hK hP hD hS hAe hQ rfl rfl dX6_byMoved_5
set_option maxHeartbeats 4000000 in
set_option maxRecDepth 100000 in
theorem c_X8_by_57 (l : Launch) (dC : Nat → ClassId) (dI : Nat → Nat → Nat) (cB cI cJ cZ cP cQ : ClassId) (ad : Nat → Nat) (sz : Nat) (p1 : Int32) : Met l yX8_by wsX8_by ({ frames := 3, cells := 0, slots := 0, locals := 68 } : Room) (zPc [.ref (ad 0), .int p1] (dC, dI) (zT cB cI cJ cZ cP cQ) [(ad 0, .inr (8, xf0 ad)), (ad 23, .inr (5, xf23 ad)), (ad 38, .inr (6, xf38 ad))] sz [] []) (va_Ql (fun r _ => (fun r => (r = (-2000000000) ∧ p1.toInt < 1) ∨ (r = (-2000000000) ∧ 1 ≤ p1.toInt ∧ 4094 < p1.toInt) ∨ (r = (-2000000000) ∧ 1 ≤ p1.toInt ∧ p1.toInt ≤ 4094)) r) (zB (dC, dI) (zT cB cI cJ cZ cP cQ) (fun _ : Unit => []) [(ad 0, .inr (8, xf0 ad)), (ad 23, .inr (5, xf23 ad)), (ad 38, .inr (6, xf38 ad))] sz) (va_A [(ad 0, .inr (8, xf0 ad)), (ad 23, .inr (5, xf23 ad)), (ad 38, .inr (6, xf38 ad))] sz)) 0 0 (va_A [(ad 0, .inr (8, xf0 ad)), (ad 23, .inr (5, xf23 ad)), (ad 38, .inr (6, xf38 ad))] sz) := by
  refine z_enter (cc := cX8_by) (maxL := 2) (ret := (some .long)) (by decide) rfl (Nat.le_of_ble_eq_true rfl) ?_
  intro p e s m below meth c A ls Q H locs hx hb hr hml hown hts hlocks hin hK hP hD hA hX hS hAe hQ hl
  have hown : s.vm.findClass RX8 = some m.cls := hown
  have hi8 : ∀ w ∈ wsX80, w ∈ wsX8_by := fun w h => List.mem_cons_of_mem _ (List.mem_append_left _ (List.mem_append_left _ (List.mem_append_right _ h)))
  have hk0 := hts (.fieldLink RX8 29 "MonthPush" "all" "LMonthPush$Sheets;") (by decide +kernel)
  have hl : lv_has ls 2 [(0, .ref (ad 0)), (1, .int p1)] := hl
  refine lv_aload_n hx hb dX8_by_0 rfl (lv_at hl 0 rfl) ?_
  refine lv_aload_n hx hb dX8_by_1 rfl (lv_at hl 0 rfl) ?_
  refine va_get (D := (dC, dI)) (ci := 8) (v := .ref (ad 23)) (C := RX8) (T := TX8) (N := 10) hx hb hts hi8 hown hK hP 0 rfl rfl 3 (by decide) hk0 (fun _ h9 => h9) rfl dX8_by_2 ?_
  refine lv_iload_n hx hb dX8_by_5 rfl (lv_at hl 1 rfl) ?_
  refine z_finr (w' := fun (u1 : Unit) => [(ad 0, .inr (8, xf0 ad)), (ad 23, .inr (5, xf23 ad)), (ad 38, .inr (6, xf38 ad))]) (va_runV (As := [.ref (ad 23), .int p1]) (rest := []) ⟨hx, hb, hml, hown, hts⟩ (c_X8_divided_53 l dC dI cB cI cJ cZ cP cQ ad H.size p1) (cwV 2 hts gX8_by_X8_divided rfl rfl rfl (by decide +kernel) ⟨Nat.le_of_ble_eq_true rfl, Nat.le_of_ble_eq_true rfl⟩) (z_pV (ci := 8) hK hP hD zX_nil [0, 1, 2] (by decide) rfl rfl 0 rfl) rfl rfl hl.1 rfl (lv_room (Nat.le_of_ble_eq_true rfl)) dX8_by_6 ⟨Nat.le_of_ble_eq_true rfl, Nat.le_of_ble_eq_true rfl⟩) hP hD hS hA [0, 1, 2] [] [0, 1, 2] rfl rfl (by decide) (by decide) (fun _ => rfl) (by decide) (fun u1 H locs hp3 hP hD hS => ?_)
  have hP : va_P (dC, dI) vwCl [(ad 0, .inr (8, xf0 ad)), (ad 23, .inr (5, xf23 ad)), (ad 38, .inr (6, xf38 ad))] H := hP
  have hD : va_D A [(ad 0, .inr (8, xf0 ad)), (ad 23, .inr (5, xf23 ad)), (ad 38, .inr (6, xf38 ad))] := hD
  refine W.widen (k := 0) (n := 0) (by decide) (by decide) ?_
  rcases hp3 with f4 | ⟨f5, f6⟩ | ⟨f7, f8⟩
  · refine z_finl (w' := fun (u9 : Unit) => [(ad 0, .inr (8, xf0 ad)), (ad 23, .inr (5, xf23 ad)), (ad 38, .inr (6, xf38 ad))]) (va_runV (As := []) (rest := []) ⟨hx, hb, hml, hown, hts⟩ (c_X6_byMoved_57 l dC dI cB cI cJ cZ cP cQ ad H.size) (cwV 0 hts gX8_by_X6_byMoved rfl rfl rfl (by decide +kernel) ⟨Nat.le_of_ble_eq_true rfl, Nat.le_of_ble_eq_true rfl⟩) (z_pV (ci := 6) hK hP hD zX_nil [2] (by decide) rfl rfl 2 rfl) rfl rfl hl.1 rfl (lv_room (Nat.le_of_ble_eq_true rfl)) dX8_by_9 ⟨Nat.le_of_ble_eq_true rfl, Nat.le_of_ble_eq_true rfl⟩) hP hD hS hA [2] [0, 1] [0, 1, 2] rfl rfl (by decide) (by decide) (fun _ => rfl) (by decide) (fun r10 u9 H locs hp11 hP hD hS => ?_)
    have hP : va_P (dC, dI) vwCl [(ad 0, .inr (8, xf0 ad)), (ad 23, .inr (5, xf23 ad)), (ad 38, .inr (6, xf38 ad))] H := hP
    have hD : va_D A [(ad 0, .inr (8, xf0 ad)), (ad 23, .inr (5, xf23 ad)), (ad 38, .inr (6, xf38 ad))] := hD
    refine W.widen (k := 0) (n := 0) (by decide) (by decide) ?_
    obtain rfl : r10 = (-9000000000000000000) := hp11
    refine z_finl (w' := fun (u12 : Unit) => [(ad 0, .inr (8, xf0 ad)), (ad 23, .inr (5, xf23 ad)), (ad 38, .inr (6, xf38 ad))]) (va_runS (As := [.long (-9000000000000000000)]) (rest := []) ⟨hx, hb, hml, hown, hts⟩ (c_X8_toFace_49 l dC dI cB cI cJ cZ cP cQ H.size) (va_cwS 1 hts gX8_by_X8_toFace rfl rfl rfl (by decide +kernel) ⟨Nat.le_of_ble_eq_true rfl, Nat.le_of_ble_eq_true rfl⟩) (z_pS hK hP hD zX_nil [] (by decide) rfl) rfl rfl hl.1 rfl (lv_room (Nat.le_of_ble_eq_true rfl)) dX8_by_12 ⟨Nat.le_of_ble_eq_true rfl, Nat.le_of_ble_eq_true rfl⟩) hP hD hS hA [] [0, 1, 2] [0, 1, 2] rfl rfl (by decide) (by decide) (fun _ => rfl) (by decide) (fun r13 u12 H locs hp14 hP hD hS => ?_)
    have hP : va_P (dC, dI) vwCl [(ad 0, .inr (8, xf0 ad)), (ad 23, .inr (5, xf23 ad)), (ad 38, .inr (6, xf38 ad))] H := hP
    have hD : va_D A [(ad 0, .inr (8, xf0 ad)), (ad 23, .inr (5, xf23 ad)), (ad 38, .inr (6, xf38 ad))] := hD
    refine W.widen (k := 0) (n := 0) (by decide) (by decide) ?_
    obtain rfl : r13 = (-2000000000) := hp14
    have hP9 := hP.sub (ws' := []) [] rfl
    have hD9 := hD.sub (ws' := []) [] (by decide) rfl
    exact z_lret () hx hb hr hlocks hK hP9 hD9 hS hAe hQ rfl (Or.inl (⟨rfl, f4⟩)) dX8_by_15
  · refine z_finl (w' := fun (u15 : Unit) => [(ad 0, .inr (8, xf0 ad)), (ad 23, .inr (5, xf23 ad)), (ad 38, .inr (6, xf38 ad))]) (va_runV (As := []) (rest := []) ⟨hx, hb, hml, hown, hts⟩ (c_X6_byMoved_57 l dC dI cB cI cJ cZ cP cQ ad H.size) (cwV 0 hts gX8_by_X6_byMoved rfl rfl rfl (by decide +kernel) ⟨Nat.le_of_ble_eq_true rfl, Nat.le_of_ble_eq_true rfl⟩) (z_pV (ci := 6) hK hP hD zX_nil [2] (by decide) rfl rfl 2 rfl) rfl rfl hl.1 rfl (lv_room (Nat.le_of_ble_eq_true rfl)) dX8_by_9 ⟨Nat.le_of_ble_eq_true rfl, Nat.le_of_ble_eq_true rfl⟩) hP hD hS hA [2] [0, 1] [0, 1, 2] rfl rfl (by decide) (by decide) (fun _ => rfl) (by decide) (fun r16 u15 H locs hp17 hP hD hS => ?_)
    have hP : va_P (dC, dI) vwCl [(ad 0, .inr (8, xf0 ad)), (ad 23, .inr (5, xf23 ad)), (ad 38, .inr (6, xf38 ad))] H := hP
    have hD : va_D A [(ad 0, .inr (8, xf0 ad)), (ad 23, .inr (5, xf23 ad)), (ad 38, .inr (6, xf38 ad))] := hD
    refine W.widen (k := 0) (n := 0) (by decide) (by decide) ?_
    obtain rfl : r16 = (-9000000000000000000) := hp17
    refine z_finl (w' := fun (u18 : Unit) => [(ad 0, .inr (8, xf0 ad)), (ad 23, .inr (5, xf23 ad)), (ad 38, .inr (6, xf38 ad))]) (va_runS (As := [.long (-9000000000000000000)]) (rest := []) ⟨hx, hb, hml, hown, hts⟩ (c_X8_toFace_49 l dC dI cB cI cJ cZ cP cQ H.size) (va_cwS 1 hts gX8_by_X8_toFace rfl rfl rfl (by decide +kernel) ⟨Nat.le_of_ble_eq_true rfl, Nat.le_of_ble_eq_true rfl⟩) (z_pS hK hP hD zX_nil [] (by decide) rfl) rfl rfl hl.1 rfl (lv_room (Nat.le_of_ble_eq_true rfl)) dX8_by_12 ⟨Nat.le_of_ble_eq_true rfl, Nat.le_of_ble_eq_true rfl⟩) hP hD hS hA [] [0, 1, 2] [0, 1, 2] rfl rfl (by decide) (by decide) (fun _ => rfl) (by decide) (fun r19 u18 H locs hp20 hP hD hS => ?_)
    have hP : va_P (dC, dI) vwCl [(ad 0, .inr (8, xf0 ad)), (ad 23, .inr (5, xf23 ad)), (ad 38, .inr (6, xf38 ad))] H := hP
    have hD : va_D A [(ad 0, .inr (8, xf0 ad)), (ad 23, .inr (5, xf23 ad)), (ad 38, .inr (6, xf38 ad))] := hD
    refine W.widen (k := 0) (n := 0) (by decide) (by decide) ?_
    obtain rfl : r19 = (-2000000000) := hp20
    have hP9 := hP.sub (ws' := []) [] rfl
    have hD9 := hD.sub (ws' := []) [] (by decide) rfl
    exact z_lret () hx hb hr hlocks hK hP9 hD9 hS hAe hQ rfl (Or.inr (Or.inl ⟨rfl, f5, f6⟩)) dX8_by_15
  · refine z_finl (w' := fun (u21 : Unit) => [(ad 0, .inr (8, xf0 ad)), (ad 23, .inr (5, xf23 ad)), (ad 38, .inr (6, xf38 ad))]) (va_runV (As := []) (rest := []) ⟨hx, hb, hml, hown, hts⟩ (c_X6_byMoved_57 l dC dI cB cI cJ cZ cP cQ ad H.size) (cwV 0 hts gX8_by_X6_byMoved rfl rfl rfl (by decide +kernel) ⟨Nat.le_of_ble_eq_true rfl, Nat.le_of_ble_eq_true rfl⟩) (z_pV (ci := 6) hK hP hD zX_nil [2] (by decide) rfl rfl 2 rfl) rfl rfl hl.1 rfl (lv_room (Nat.le_of_ble_eq_true rfl)) dX8_by_9 ⟨Nat.le_of_ble_eq_true rfl, Nat.le_of_ble_eq_true rfl⟩) hP hD hS hA [2] [0, 1] [0, 1, 2] rfl rfl (by decide) (by decide) (fun _ => rfl) (by decide) (fun r22 u21 H locs hp23 hP hD hS => ?_)
    have hP : va_P (dC, dI) vwCl [(ad 0, .inr (8, xf0 ad)), (ad 23, .inr (5, xf23 ad)), (ad 38, .inr (6, xf38 ad))] H := hP
    have hD : va_D A [(ad 0, .inr (8, xf0 ad)), (ad 23, .inr (5, xf23 ad)), (ad 38, .inr (6, xf38 ad))] := hD
    refine W.widen (k := 0) (n := 0) (by decide) (by decide) ?_
    obtain rfl : r22 = (-9000000000000000000) := hp23
    refine z_finl (w' := fun (u24 : Unit) => [(ad 0, .inr (8, xf0 ad)), (ad 23, .inr (5, xf23 ad)), (ad 38, .inr (6, xf38 ad))]) (va_runS (As := [.long (-9000000000000000000)]) (rest := []) ⟨hx, hb, hml, hown, hts⟩ (c_X8_toFace_49 l dC dI cB cI cJ cZ cP cQ H.size) (va_cwS 1 hts gX8_by_X8_toFace rfl rfl rfl (by decide +kernel) ⟨Nat.le_of_ble_eq_true rfl, Nat.le_of_ble_eq_true rfl⟩) (z_pS hK hP hD zX_nil [] (by decide) rfl) rfl rfl hl.1 rfl (lv_room (Nat.le_of_ble_eq_true rfl)) dX8_by_12 ⟨Nat.le_of_ble_eq_true rfl, Nat.le_of_ble_eq_true rfl⟩) hP hD hS hA [] [0, 1, 2] [0, 1, 2] rfl rfl (by decide) (by decide) (fun _ => rfl) (by decide) (fun r25 u24 H locs hp26 hP hD hS => ?_)
    have hP : va_P (dC, dI) vwCl [(ad 0, .inr (8, xf0 ad)), (ad 23, .inr (5, xf23 ad)), (ad 38, .inr (6, xf38 ad))] H := hP
    have hD : va_D A [(ad 0, .inr (8, xf0 ad)), (ad 23, .inr (5, xf23 ad)), (ad 38, .inr (6, xf38 ad))] := hD
    refine W.widen (k := 0) (n := 0) (by decide) (by decide) ?_
    obtain rfl : r25 = (-2000000000) := hp26
    have hP9 := hP.sub (ws' := []) [] rfl
    have hD9 := hD.sub (ws' := []) [] (by decide) rfl
    exact z_lret () hx hb hr hlocks hK hP9 hD9 hS hAe hQ rfl (Or.inr (Or.inr ⟨rfl, f7, f8⟩)) dX8_by_15
set_option maxHeartbeats 4000000 in
set_option maxRecDepth 100000 in
theorem c_X1_takeAll_60 (l : Launch) (dC : Nat → ClassId) (dI : Nat → Nat → Nat) (cB cI cJ cZ cP cQ : ClassId) (ad : Nat → Nat) (sz : Nat) : Met l yX1_takeAll wsX1_takeAll ({ frames := 1, cells := 0, slots := 0, locals := 24 } : Room) (zPc [.ref (ad 39), .ref (ad 23)] (dC, dI) (zT cB cI cJ cZ cP cQ) [(ad 23, .inr (5, xf23 ad)), (ad 39, .inr (1, xf39 ad)), (ad 40, .inl (cJ, 72, .inr (.inl (fun _ => 0)))), (ad 41, .inl (cJ, 72, .inr (.inl (fun _ => 0)))), (ad 42, .inl (cJ, 72, .inr (.inl (fun _ => 0))))] sz [] []) (va_Qv (fun _ => True) (zB (dC, dI) (zT cB cI cJ cZ cP cQ) (fun _ : Unit => [(ad 23, .inr (5, xf23 ad)), (ad 39, .inr (1, xf39 ad)), (ad 40, .inl (cJ, 72, .inr (.inl (fun _ => 0)))), (ad 41, .inl (cJ, 72, .inr (.inl (fun _ => 0)))), (ad 42, .inl (cJ, 72, .inr (.inl (fun _ => 0))))]) [(ad 23, .inr (5, xf23 ad)), (ad 39, .inr (1, xf39 ad)), (ad 40, .inl (cJ, 72, .inr (.inl (fun _ => 0)))), (ad 41, .inl (cJ, 72, .inr (.inl (fun _ => 0)))), (ad 42, .inl (cJ, 72, .inr (.inl (fun _ => 0))))] sz) (va_A [(ad 23, .inr (5, xf23 ad)), (ad 39, .inr (1, xf39 ad)), (ad 40, .inl (cJ, 72, .inr (.inl (fun _ => 0)))), (ad 41, .inl (cJ, 72, .inr (.inl (fun _ => 0)))), (ad 42, .inl (cJ, 72, .inr (.inl (fun _ => 0))))] sz)) 0 0 (va_A [(ad 23, .inr (5, xf23 ad)), (ad 39, .inr (1, xf39 ad)), (ad 40, .inl (cJ, 72, .inr (.inl (fun _ => 0)))), (ad 41, .inl (cJ, 72, .inr (.inl (fun _ => 0)))), (ad 42, .inl (cJ, 72, .inr (.inl (fun _ => 0))))] sz) := by
  refine z_enter (cc := cX1_takeAll) (maxL := 4) (ret := none) (by decide) rfl (Nat.le_of_ble_eq_true rfl) ?_
  intro p e s m below meth c A ls Q H locs hx hb hr hml hown hts hlocks hin hK hP hD hA hX hS hAe hQ hl
  have hown : s.vm.findClass RX1 = some m.cls := hown
  have hi1 : ∀ w ∈ wsX10, w ∈ wsX1_takeAll := fun w h => List.mem_cons_of_mem _ (List.mem_append_left _ (List.mem_append_right _ h))
  have hi5 : ∀ w ∈ wsX50, w ∈ wsX1_takeAll := fun w h => List.mem_cons_of_mem _ (List.mem_append_right _ h)
  have hk0 := hts (.fieldLink RX1 11 "MonthPush$Groups" "size" "[J") (by decide +kernel)
  have hk1 := hts (.fieldLink RX1 15 "MonthPush$Groups" "school" "[J") (by decide +kernel)
  have hk2 := hts (.fieldLink RX1 18 "MonthPush$Groups" "wage" "[J") (by decide +kernel)
  have hk3 := hts (.fieldLink RX1 27 "MonthPush$Sheets" "n" "I") (by decide +kernel)
  have hl : lv_has ls 4 [(0, .ref (ad 39)), (1, .ref (ad 23))] := hl
  refine lv_aload_n hx hb dX1_takeAll_0 rfl (lv_at hl 0 rfl) ?_
  refine va_get (D := (dC, dI)) (ci := 1) (v := .ref (ad 40)) (C := RX1) (T := TX1) (N := 3) hx hb hts hi1 hown hK hP 1 rfl rfl 0 (by decide) hk0 (fun _ h9 => h9) rfl dX1_takeAll_1 ?_
  refine lv_lconst (v := 0) hx hb dX1_takeAll_4 (by decide) ?_
  refine z_finv (w' := fun (u1 : Unit) => [(ad 23, .inr (5, xf23 ad)), (ad 39, .inr (1, xf39 ad)), (ad 40, .inl (cJ, 72, .inr (.inl (fun _ => 0)))), (ad 41, .inl (cJ, 72, .inr (.inl (fun _ => 0)))), (ad 42, .inl (cJ, 72, .inr (.inl (fun _ => 0))))]) (va_runS (As := [.ref (ad 40), .long 0]) (rest := []) ⟨hx, hb, hml, hown, hts⟩ (c_fillL l dC dI cB cI cJ cZ cP cQ (ad 40) H.size 72 (fun _ => 0) 0 (by decide)) (va_cwS 2 hts gX1_takeAll_J7_fill_d0a16 rfl rfl rfl (by decide +kernel) ⟨Nat.le_of_ble_eq_true rfl, Nat.le_of_ble_eq_true rfl⟩) (z_pS hK hP hD zX_nil [2] (by decide) rfl) rfl rfl hl.1 rfl (lv_room (Nat.le_of_ble_eq_true rfl)) dX1_takeAll_5 ⟨Nat.le_of_ble_eq_true rfl, Nat.le_of_ble_eq_true rfl⟩) hP hD hS hA [2] [0, 1, 3, 4] [0, 1, 4, 2, 3] rfl rfl (by decide) (by decide) (fun _ => rfl) (by decide) (fun u1 H locs hp3 hP hD hS => ?_)
  have hP : va_P (dC, dI) vwCl [(ad 23, .inr (5, xf23 ad)), (ad 39, .inr (1, xf39 ad)), (ad 40, .inl (cJ, 72, .inr (.inl (fun _ => 0)))), (ad 41, .inl (cJ, 72, .inr (.inl (fun _ => 0)))), (ad 42, .inl (cJ, 72, .inr (.inl (fun _ => 0))))] H := hP
  have hD : va_D A [(ad 23, .inr (5, xf23 ad)), (ad 39, .inr (1, xf39 ad)), (ad 40, .inl (cJ, 72, .inr (.inl (fun _ => 0)))), (ad 41, .inl (cJ, 72, .inr (.inl (fun _ => 0)))), (ad 42, .inl (cJ, 72, .inr (.inl (fun _ => 0))))] := hD
  refine W.widen (k := 0) (n := 0) (by decide) (by decide) ?_
  refine lv_aload_n hx hb dX1_takeAll_8 rfl (lv_at hl 0 rfl) ?_
  refine va_get (D := (dC, dI)) (ci := 1) (v := .ref (ad 41)) (C := RX1) (T := TX1) (N := 3) hx hb hts hi1 hown hK hP 1 rfl rfl 1 (by decide) hk1 (fun _ h9 => h9) rfl dX1_takeAll_9 ?_
  refine lv_lconst (v := 0) hx hb dX1_takeAll_12 (by decide) ?_
  refine z_finv (w' := fun (u4 : Unit) => [(ad 23, .inr (5, xf23 ad)), (ad 39, .inr (1, xf39 ad)), (ad 40, .inl (cJ, 72, .inr (.inl (fun _ => 0)))), (ad 41, .inl (cJ, 72, .inr (.inl (fun _ => 0)))), (ad 42, .inl (cJ, 72, .inr (.inl (fun _ => 0))))]) (va_runS (As := [.ref (ad 41), .long 0]) (rest := []) ⟨hx, hb, hml, hown, hts⟩ (c_fillL l dC dI cB cI cJ cZ cP cQ (ad 41) H.size 72 (fun _ => 0) 0 (by decide)) (va_cwS 2 hts gX1_takeAll_J7_fill_d0a16 rfl rfl rfl (by decide +kernel) ⟨Nat.le_of_ble_eq_true rfl, Nat.le_of_ble_eq_true rfl⟩) (z_pS hK hP hD zX_nil [3] (by decide) rfl) rfl rfl hl.1 rfl (lv_room (Nat.le_of_ble_eq_true rfl)) dX1_takeAll_13 ⟨Nat.le_of_ble_eq_true rfl, Nat.le_of_ble_eq_true rfl⟩) hP hD hS hA [3] [0, 1, 2, 4] [0, 1, 2, 4, 3] rfl rfl (by decide) (by decide) (fun _ => rfl) (by decide) (fun u4 H locs hp6 hP hD hS => ?_)
  have hP : va_P (dC, dI) vwCl [(ad 23, .inr (5, xf23 ad)), (ad 39, .inr (1, xf39 ad)), (ad 40, .inl (cJ, 72, .inr (.inl (fun _ => 0)))), (ad 41, .inl (cJ, 72, .inr (.inl (fun _ => 0)))), (ad 42, .inl (cJ, 72, .inr (.inl (fun _ => 0))))] H := hP
  have hD : va_D A [(ad 23, .inr (5, xf23 ad)), (ad 39, .inr (1, xf39 ad)), (ad 40, .inl (cJ, 72, .inr (.inl (fun _ => 0)))), (ad 41, .inl (cJ, 72, .inr (.inl (fun _ => 0)))), (ad 42, .inl (cJ, 72, .inr (.inl (fun _ => 0))))] := hD
  refine W.widen (k := 0) (n := 0) (by decide) (by decide) ?_
  refine lv_aload_n hx hb dX1_takeAll_16 rfl (lv_at hl 0 rfl) ?_
  refine va_get (D := (dC, dI)) (ci := 1) (v := .ref (ad 42)) (C := RX1) (T := TX1) (N := 3) hx hb hts hi1 hown hK hP 1 rfl rfl 2 (by decide) hk2 (fun _ h9 => h9) rfl dX1_takeAll_17 ?_
  refine lv_lconst (v := 0) hx hb dX1_takeAll_20 (by decide) ?_
  refine z_finv (w' := fun (u7 : Unit) => [(ad 23, .inr (5, xf23 ad)), (ad 39, .inr (1, xf39 ad)), (ad 40, .inl (cJ, 72, .inr (.inl (fun _ => 0)))), (ad 41, .inl (cJ, 72, .inr (.inl (fun _ => 0)))), (ad 42, .inl (cJ, 72, .inr (.inl (fun _ => 0))))]) (va_runS (As := [.ref (ad 42), .long 0]) (rest := []) ⟨hx, hb, hml, hown, hts⟩ (c_fillL l dC dI cB cI cJ cZ cP cQ (ad 42) H.size 72 (fun _ => 0) 0 (by decide)) (va_cwS 2 hts gX1_takeAll_J7_fill_d0a16 rfl rfl rfl (by decide +kernel) ⟨Nat.le_of_ble_eq_true rfl, Nat.le_of_ble_eq_true rfl⟩) (z_pS hK hP hD zX_nil [4] (by decide) rfl) rfl rfl hl.1 rfl (lv_room (Nat.le_of_ble_eq_true rfl)) dX1_takeAll_21 ⟨Nat.le_of_ble_eq_true rfl, Nat.le_of_ble_eq_true rfl⟩) hP hD hS hA [4] [0, 1, 2, 3] [0, 1, 2, 3, 4] rfl rfl (by decide) (by decide) (fun _ => rfl) (by decide) (fun u7 H locs hp9 hP hD hS => ?_)
  have hP : va_P (dC, dI) vwCl [(ad 23, .inr (5, xf23 ad)), (ad 39, .inr (1, xf39 ad)), (ad 40, .inl (cJ, 72, .inr (.inl (fun _ => 0)))), (ad 41, .inl (cJ, 72, .inr (.inl (fun _ => 0)))), (ad 42, .inl (cJ, 72, .inr (.inl (fun _ => 0))))] H := hP
  have hD : va_D A [(ad 23, .inr (5, xf23 ad)), (ad 39, .inr (1, xf39 ad)), (ad 40, .inl (cJ, 72, .inr (.inl (fun _ => 0)))), (ad 41, .inl (cJ, 72, .inr (.inl (fun _ => 0)))), (ad 42, .inl (cJ, 72, .inr (.inl (fun _ => 0))))] := hD
  refine W.widen (k := 0) (n := 0) (by decide) (by decide) ?_
  refine lv_iconst (v := 0) hx hb dX1_takeAll_24 (by decide) ?_
  refine lv_istore_n (lv' := [(2, .int 0), (0, .ref (ad 39)), (1, .ref (ad 23))]) hx hb dX1_takeAll_25 rfl hl (by decide) rfl (fun ls hl => ?_)
  refine lv_iload_n hx hb dX1_takeAll_26 rfl (lv_at hl 0 rfl) ?_
  refine lv_aload_n hx hb dX1_takeAll_27 rfl (lv_at hl 2 rfl) ?_
  refine va_get (D := (dC, dI)) (ci := 5) (v := .int 0) (C := RX5) (T := TX5) (N := 7) hx hb hts hi5 hown hK hP 0 rfl rfl 0 (by decide) hk3 (fun _ h9 => h9) rfl dX1_takeAll_28 ?_
  refine lv_icmp_ge (tgt := 111) hx hb dX1_takeAll_31 (by decide) (fun _ => ?_) (fun c => absurd (by decide) c)
  exact z_vret () hx hb hr hlocks hK hP hD hS hAe hQ rfl trivial dX1_takeAll_111
set_option maxHeartbeats 4000000 in
set_option maxRecDepth 100000 in
theorem c_X1_slope_61 (l : Launch) (dC : Nat → ClassId) (dI : Nat → Nat → Nat) (cB cI cJ cZ cP cQ : ClassId) (ad : Nat → Nat) (sz : Nat) : Met l yX1_slope wsX1_slope ({ frames := 1, cells := 0, slots := 0, locals := 23 } : Room) (zPc [.ref (ad 39)] (dC, dI) (zT cB cI cJ cZ cP cQ) [(ad 39, .inr (1, xf39 ad)), (ad 40, .inl (cJ, 72, .inr (.inl (fun _ => 0))))] sz [(RX1, 44, yX8_thousandths, "MonthPush")] []) (va_Ql (fun r _ => (fun r => r = (-9000000000000000000)) r) (zB (dC, dI) (zT cB cI cJ cZ cP cQ) (fun _ : Unit => [(ad 39, .inr (1, xf39 ad)), (ad 40, .inl (cJ, 72, .inr (.inl (fun _ => 0))))]) [(ad 39, .inr (1, xf39 ad)), (ad 40, .inl (cJ, 72, .inr (.inl (fun _ => 0))))] sz) (va_A [(ad 39, .inr (1, xf39 ad)), (ad 40, .inl (cJ, 72, .inr (.inl (fun _ => 0))))] sz)) 0 0 (va_A [(ad 39, .inr (1, xf39 ad)), (ad 40, .inl (cJ, 72, .inr (.inl (fun _ => 0))))] sz) := by
  refine z_enter (cc := cX1_slope) (maxL := 12) (ret := (some .long)) (by decide) rfl (Nat.le_of_ble_eq_true rfl) ?_
  intro p e s m below meth c A ls Q H locs hx hb hr hml hown hts hlocks hin hK hP hD hA hX hS hAe hQ hl
  have hown : s.vm.findClass RX1 = some m.cls := hown
  have hi1 : ∀ w ∈ wsX10, w ∈ wsX1_slope := fun w h => List.mem_cons_of_mem _ (List.mem_append_right _ h)
  have hk0 := hts (.initialized RX8) (by decide +kernel)
  have hk1 := hts (.static yX8_thousandths) (by decide +kernel)
  have hk2 := hts (.fieldLink RX1 11 "MonthPush$Groups" "size" "[J") (by decide +kernel)
  have hl : lv_has ls 12 [(0, .ref (ad 39))] := hl
  refine lv_lconst (v := 0) hx hb dX1_slope_0 (by decide) ?_
  refine lv_lstore_n (lv' := [(1, .long 0), (0, .ref (ad 39))]) hx hb dX1_slope_1 rfl hl (by decide) rfl (fun ls hl => ?_)
  refine lv_lconst (v := 0) hx hb dX1_slope_2 (by decide) ?_
  refine lv_lstore_n (lv' := [(3, .long 0), (1, .long 0), (0, .ref (ad 39))]) hx hb dX1_slope_3 rfl hl (by decide) rfl (fun ls hl => ?_)
  refine lv_lconst (v := 0) hx hb dX1_slope_4 (by decide) ?_
  refine lv_lstore (lv' := [(5, .long 0), (3, .long 0), (1, .long 0), (0, .ref (ad 39))]) hx hb dX1_slope_5 hl (by decide) rfl (fun ls hl => ?_)
  refine lv_lconst (v := 0) hx hb dX1_slope_7 (by decide) ?_
  refine lv_lstore (lv' := [(7, .long 0), (5, .long 0), (3, .long 0), (1, .long 0), (0, .ref (ad 39))]) hx hb dX1_slope_8 hl (by decide) rfl (fun ls hl => ?_)
  refine lv_lconst (v := 0) hx hb dX1_slope_10 (by decide) ?_
  refine lv_lstore (lv' := [(9, .long 0), (7, .long 0), (5, .long 0), (3, .long 0), (1, .long 0), (0, .ref (ad 39))]) hx hb dX1_slope_11 hl (by decide) rfl (fun ls hl => ?_)
  refine lv_iconst (v := 0) hx hb dX1_slope_13 (by decide) ?_
  refine lv_istore (lv' := [(11, .int 0), (9, .long 0), (7, .long 0), (5, .long 0), (3, .long 0), (1, .long 0), (0, .ref (ad 39))]) hx hb dX1_slope_14 hl (by decide) rfl (fun ls hl => ?_)
  have hlp1 : ∀ (n i : Nat), i + n = 72 → 0 ≤ i → ∀ (H : Heap) (locs : List Loc), va_P (dC, dI) vwCl [(ad 39, .inr (1, xf39 ad)), (ad 40, .inl (cJ, 72, .inr (.inl (fun _ => 0))))] H → va_S A s.heap H locs → ∀ (ls : Array Slot), lv_has ls 12 [(11, .int (nI i)), (9, .long 0), (7, .long 0), (5, .long 0), (3, .long 0), (1, .long 0), (0, .ref (ad 39))] → W p l e ({ frames := 1, cells := 0, slots := 0, locals := 23 } : Room) s m ([.ref (ad 39)] : List Value).toArray below meth c H locs 0 0 Q (F0 m 16 ls []) := by
    intro n
    induction n with
    | zero =>
      intro i hi hi0 H locs hP hS ls hl
      obtain rfl : i = 72 := by omega
      have hl : lv_has ls 12 [(11, .int 72), (9, .long 0), (7, .long 0), (5, .long 0), (3, .long 0), (1, .long 0), (0, .ref (ad 39))] := hl
      refine lv_iload hx hb dX1_slope_16 (lv_at hl 0 rfl) ?_
      refine lv_bipush (v := 72) hx hb dX1_slope_18 (by decide) ?_
      refine lv_icmp_ge (tgt := 129) hx hb dX1_slope_20 (by decide) (fun _ => ?_) (fun c => absurd (by decide) c)
      refine lv_lload_n hx hb dX1_slope_129 rfl (lv_at hl 5 rfl) ?_
      refine lv_lload hx hb dX1_slope_130 (lv_at hl 2 rfl) ?_
      refine lv_lmul hx hb dX1_slope_132 ?_
      refine z_topl (y := 0) (by decide +kernel) ?_
      refine lv_lload_n hx hb dX1_slope_133 rfl (lv_at hl 4 rfl) ?_
      refine lv_lload hx hb dX1_slope_134 (lv_at hl 3 rfl) ?_
      refine lv_lmul hx hb dX1_slope_136 ?_
      refine z_topl (y := 0) (by decide +kernel) ?_
      refine lv_lsub hx hb dX1_slope_137 ?_
      refine z_topl (y := 0) (by decide +kernel) ?_
      refine lv_lload_n hx hb dX1_slope_138 rfl (lv_at hl 5 rfl) ?_
      refine lv_lload hx hb dX1_slope_139 (lv_at hl 1 rfl) ?_
      refine lv_lmul hx hb dX1_slope_141 ?_
      refine z_topl (y := 0) (by decide +kernel) ?_
      refine lv_lload_n hx hb dX1_slope_142 rfl (lv_at hl 4 rfl) ?_
      refine lv_lload_n hx hb dX1_slope_143 rfl (lv_at hl 4 rfl) ?_
      refine lv_lmul hx hb dX1_slope_144 ?_
      refine z_topl (y := 0) (by decide +kernel) ?_
      refine lv_lsub hx hb dX1_slope_145 ?_
      refine z_topl (y := 0) (by decide +kernel) ?_
      refine z_finl (w' := fun (u2 : Unit) => [(ad 39, .inr (1, xf39 ad)), (ad 40, .inl (cJ, 72, .inr (.inl (fun _ => 0))))]) (va_runSN (As := [.long 0, .long 0]) (rest := []) ⟨hx, hb, hml, hown, hts⟩ (c_X8_thousandths_48 l dC dI cB cI cJ cZ cP cQ H.size) ⟨va_cnB 2 hts gX1_slope_X8_thousandths_n44 rfl rfl rfl (hX.1 (RX1, 44, yX8_thousandths, "MonthPush") (by decide +kernel)) hk0 (by decide +kernel) ⟨Nat.le_of_ble_eq_true rfl, Nat.le_of_ble_eq_true rfl⟩, hk1, trivial⟩ (z_pS hK hP hD zX_nil [] (by decide) rfl) rfl rfl hl.1 rfl (lv_room (Nat.le_of_ble_eq_true rfl)) dX1_slope_146 ⟨Nat.le_of_ble_eq_true rfl, Nat.le_of_ble_eq_true rfl⟩) hP hD hS hA [] [0, 1] [0, 1] rfl rfl (by decide) (by decide) (fun _ => rfl) (by decide) (fun r3 u2 H locs hp4 hP hD hS => ?_)
      have hP : va_P (dC, dI) vwCl [(ad 39, .inr (1, xf39 ad)), (ad 40, .inl (cJ, 72, .inr (.inl (fun _ => 0))))] H := hP
      have hD : va_D A [(ad 39, .inr (1, xf39 ad)), (ad 40, .inl (cJ, 72, .inr (.inl (fun _ => 0))))] := hD
      refine W.widen (k := 0) (n := 0) (by decide) (by decide) ?_
      obtain rfl : r3 = (-9000000000000000000) := hp4
      exact z_lret () hx hb hr hlocks hK hP hD hS hAe hQ rfl rfl dX1_slope_149
    | succ n ih =>
      intro i hi hi0 H locs hP hS ls hl
      have hlt : i < 72 := by omega
      refine lv_iload hx hb dX1_slope_16 (lv_at hl 0 rfl) ?_
      refine lv_bipush (v := 72) hx hb dX1_slope_18 (by decide) ?_
      refine lv_icmp_ge (tgt := 129) hx hb dX1_slope_20 (by decide) (fun c => absurd (show 72 ≤ (i : Int) from z_le (by decide) (nI_toInt (by omega)) c) (by omega)) (fun _ => ?_)
      refine lv_aload_n hx hb dX1_slope_23 rfl (lv_at hl 6 rfl) ?_
      refine va_get (D := (dC, dI)) (ci := 1) (v := .ref (ad 40)) (C := RX1) (T := TX1) (N := 3) hx hb hts hi1 hown hK hP 0 rfl rfl 0 (by decide) hk2 (fun _ h9 => h9) rfl dX1_slope_24 ?_
      refine lv_iload hx hb dX1_slope_27 (lv_at hl 0 rfl) ?_
      refine va_lald hx hb hK hP 1 2 rfl rfl (z_in (nI_toInt (by omega)) (by omega) (by omega)) dX1_slope_29 ?_
      refine z_topl (y := 0) rfl ?_
      refine lv_lconst (v := 0) hx hb dX1_slope_30 (by decide) ?_
      refine W.lcmp hx hb dX1_slope_31 ?_
      refine z_topi (y := 0) (by decide +kernel) ?_
      refine lv_if_le (tgt := 123) hx hb dX1_slope_32 (by decide) (fun _ => ?_) (fun c => absurd (by decide) c)
      refine lv_iinc (v := nI (i + 1)) (lv' := [(11, .int (nI (i + 1))), (9, .long 0), (7, .long 0), (5, .long 0), (3, .long 0), (1, .long 0), (0, .ref (ad 39))]) hx hb dX1_slope_123 hl (k := 0) rfl (nI_1 i) (by decide) rfl (fun ls hl => ?_)
      refine lv_goto (tgt := 16) hx hb dX1_slope_126 (by decide) ?_
      exact ih (i + 1) (by omega) (by omega) _ _ hP hS ls (lv_sub hl [0, 1, 2, 3, 4, 5, 6] rfl)
  exact hlp1 72 0 rfl (by omega) _ _ hP hS ls (lv_sub hl [0, 1, 2, 3, 4, 5, 6] rfl)
set_option maxHeartbeats 4000000 in
set_option maxRecDepth 100000 in
theorem c_X8_manyOf_61 (l : Launch) (dC : Nat → ClassId) (dI : Nat → Nat → Nat) (cB cI cJ cZ cP cQ : ClassId) (ad : Nat → Nat) (sz : Nat) : Met l yX8_manyOf wsX8_manyOf ({ frames := 2, cells := 0, slots := 0, locals := 54 } : Room) (zPc [.ref (ad 0)] (dC, dI) (zT cB cI cJ cZ cP cQ) [(ad 0, .inr (8, xf0 ad)), (ad 23, .inr (5, xf23 ad)), (ad 39, .inr (1, xf39 ad)), (ad 40, .inl (cJ, 72, .inr (.inl (fun _ => 0)))), (ad 41, .inl (cJ, 72, .inr (.inl (fun _ => 0)))), (ad 42, .inl (cJ, 72, .inr (.inl (fun _ => 0))))] sz [(RX1, 44, yX8_thousandths, "MonthPush")] []) (va_Ql (fun r _ => (fun r => r = (-9000000000000000000)) r) (zB (dC, dI) (zT cB cI cJ cZ cP cQ) (fun _ : Unit => [(ad 0, .inr (8, xf0 ad)), (ad 23, .inr (5, xf23 ad)), (ad 39, .inr (1, xf39 ad)), (ad 40, .inl (cJ, 72, .inr (.inl (fun _ => 0)))), (ad 41, .inl (cJ, 72, .inr (.inl (fun _ => 0)))), (ad 42, .inl (cJ, 72, .inr (.inl (fun _ => 0))))]) [(ad 0, .inr (8, xf0 ad)), (ad 23, .inr (5, xf23 ad)), (ad 39, .inr (1, xf39 ad)), (ad 40, .inl (cJ, 72, .inr (.inl (fun _ => 0)))), (ad 41, .inl (cJ, 72, .inr (.inl (fun _ => 0)))), (ad 42, .inl (cJ, 72, .inr (.inl (fun _ => 0))))] sz) (va_A [(ad 0, .inr (8, xf0 ad)), (ad 23, .inr (5, xf23 ad)), (ad 39, .inr (1, xf39 ad)), (ad 40, .inl (cJ, 72, .inr (.inl (fun _ => 0)))), (ad 41, .inl (cJ, 72, .inr (.inl (fun _ => 0)))), (ad 42, .inl (cJ, 72, .inr (.inl (fun _ => 0))))] sz)) 0 0 (va_A [(ad 0, .inr (8, xf0 ad)), (ad 23, .inr (5, xf23 ad)), (ad 39, .inr (1, xf39 ad)), (ad 40, .inl (cJ, 72, .inr (.inl (fun _ => 0)))), (ad 41, .inl (cJ, 72, .inr (.inl (fun _ => 0)))), (ad 42, .inl (cJ, 72, .inr (.inl (fun _ => 0))))] sz) := by
  refine z_enter (cc := cX8_manyOf) (maxL := 1) (ret := (some .long)) (by decide) rfl (Nat.le_of_ble_eq_true rfl) ?_
  intro p e s m below meth c A ls Q H locs hx hb hr hml hown hts hlocks hin hK hP hD hA hX hS hAe hQ hl
  have hown : s.vm.findClass RX8 = some m.cls := hown
  have hi8 : ∀ w ∈ wsX80, w ∈ wsX8_manyOf := fun w h => List.mem_cons_of_mem _ (List.mem_append_left _ (List.mem_append_left _ (List.mem_append_right _ h)))
  have hk0 := hts (.fieldLink RX8 53 "MonthPush" "grouped" "LMonthPush$Groups;") (by decide +kernel)
  have hk1 := hts (.fieldLink RX8 29 "MonthPush" "all" "LMonthPush$Sheets;") (by decide +kernel)
  have hl : lv_has ls 1 [(0, .ref (ad 0))] := hl
  refine lv_aload_n hx hb dX8_manyOf_0 rfl (lv_at hl 0 rfl) ?_
  refine va_get (D := (dC, dI)) (ci := 8) (v := .ref (ad 39)) (C := RX8) (T := TX8) (N := 10) hx hb hts hi8 hown hK hP 0 rfl rfl 7 (by decide) hk0 (fun _ h9 => h9) rfl dX8_manyOf_1 ?_
  refine lv_aload_n hx hb dX8_manyOf_4 rfl (lv_at hl 0 rfl) ?_
  refine va_get (D := (dC, dI)) (ci := 8) (v := .ref (ad 23)) (C := RX8) (T := TX8) (N := 10) hx hb hts hi8 hown hK hP 0 rfl rfl 3 (by decide) hk1 (fun _ h9 => h9) rfl dX8_manyOf_5 ?_
  refine z_finv (w' := fun (u1 : Unit) => [(ad 0, .inr (8, xf0 ad)), (ad 23, .inr (5, xf23 ad)), (ad 39, .inr (1, xf39 ad)), (ad 40, .inl (cJ, 72, .inr (.inl (fun _ => 0)))), (ad 41, .inl (cJ, 72, .inr (.inl (fun _ => 0)))), (ad 42, .inl (cJ, 72, .inr (.inl (fun _ => 0))))]) (va_runV (As := [.ref (ad 23)]) (rest := []) ⟨hx, hb, hml, hown, hts⟩ (c_X1_takeAll_60 l dC dI cB cI cJ cZ cP cQ ad H.size) (cwV 1 hts gX8_manyOf_X1_takeAll rfl rfl rfl (by decide +kernel) ⟨Nat.le_of_ble_eq_true rfl, Nat.le_of_ble_eq_true rfl⟩) (z_pV (ci := 1) hK hP hD zX_nil [1, 2, 3, 4, 5] (by decide) rfl rfl 2 rfl) rfl rfl hl.1 rfl (lv_room (Nat.le_of_ble_eq_true rfl)) dX8_manyOf_8 ⟨Nat.le_of_ble_eq_true rfl, Nat.le_of_ble_eq_true rfl⟩) hP hD hS hA [1, 2, 3, 4, 5] [0] [0, 1, 2, 3, 4, 5] rfl rfl (by decide) (by decide) (fun _ => rfl) (by decide) (fun u1 H locs hp3 hP hD hS => ?_)
  have hP : va_P (dC, dI) vwCl [(ad 0, .inr (8, xf0 ad)), (ad 23, .inr (5, xf23 ad)), (ad 39, .inr (1, xf39 ad)), (ad 40, .inl (cJ, 72, .inr (.inl (fun _ => 0)))), (ad 41, .inl (cJ, 72, .inr (.inl (fun _ => 0)))), (ad 42, .inl (cJ, 72, .inr (.inl (fun _ => 0))))] H := hP
  have hD : va_D A [(ad 0, .inr (8, xf0 ad)), (ad 23, .inr (5, xf23 ad)), (ad 39, .inr (1, xf39 ad)), (ad 40, .inl (cJ, 72, .inr (.inl (fun _ => 0)))), (ad 41, .inl (cJ, 72, .inr (.inl (fun _ => 0)))), (ad 42, .inl (cJ, 72, .inr (.inl (fun _ => 0))))] := hD
  refine W.widen (k := 0) (n := 0) (by decide) (by decide) ?_
  refine lv_aload_n hx hb dX8_manyOf_11 rfl (lv_at hl 0 rfl) ?_
  refine va_get (D := (dC, dI)) (ci := 8) (v := .ref (ad 39)) (C := RX8) (T := TX8) (N := 10) hx hb hts hi8 hown hK hP 0 rfl rfl 7 (by decide) hk0 (fun _ h9 => h9) rfl dX8_manyOf_12 ?_
  refine z_finl (w' := fun (u4 : Unit) => [(ad 0, .inr (8, xf0 ad)), (ad 23, .inr (5, xf23 ad)), (ad 39, .inr (1, xf39 ad)), (ad 40, .inl (cJ, 72, .inr (.inl (fun _ => 0)))), (ad 41, .inl (cJ, 72, .inr (.inl (fun _ => 0)))), (ad 42, .inl (cJ, 72, .inr (.inl (fun _ => 0))))]) (va_runV (As := []) (rest := []) ⟨hx, hb, hml, hown, hts⟩ (c_X1_slope_61 l dC dI cB cI cJ cZ cP cQ ad H.size) (cwV 0 hts gX8_manyOf_X1_slope rfl rfl rfl (by decide +kernel) ⟨Nat.le_of_ble_eq_true rfl, Nat.le_of_ble_eq_true rfl⟩) (z_pV (ci := 1) hK hP hD (zX_sub hX (by decide +kernel) (by decide +kernel)) [2, 3] (by decide) rfl rfl 2 rfl) rfl rfl hl.1 rfl (lv_room (Nat.le_of_ble_eq_true rfl)) dX8_manyOf_15 ⟨Nat.le_of_ble_eq_true rfl, Nat.le_of_ble_eq_true rfl⟩) hP hD hS hA [2, 3] [0, 1, 4, 5] [0, 1, 4, 5, 2, 3] rfl rfl (by decide) (by decide) (fun _ => rfl) (by decide) (fun r5 u4 H locs hp6 hP hD hS => ?_)
  have hP : va_P (dC, dI) vwCl [(ad 0, .inr (8, xf0 ad)), (ad 23, .inr (5, xf23 ad)), (ad 39, .inr (1, xf39 ad)), (ad 40, .inl (cJ, 72, .inr (.inl (fun _ => 0)))), (ad 41, .inl (cJ, 72, .inr (.inl (fun _ => 0)))), (ad 42, .inl (cJ, 72, .inr (.inl (fun _ => 0))))] H := hP
  have hD : va_D A [(ad 0, .inr (8, xf0 ad)), (ad 23, .inr (5, xf23 ad)), (ad 39, .inr (1, xf39 ad)), (ad 40, .inl (cJ, 72, .inr (.inl (fun _ => 0)))), (ad 41, .inl (cJ, 72, .inr (.inl (fun _ => 0)))), (ad 42, .inl (cJ, 72, .inr (.inl (fun _ => 0))))] := hD
  refine W.widen (k := 0) (n := 0) (by decide) (by decide) ?_
  obtain rfl : r5 = (-9000000000000000000) := hp6
  exact z_lret () hx hb hr hlocks hK hP hD hS hAe hQ rfl rfl dX8_manyOf_18
set_option maxHeartbeats 4000000 in
set_option maxRecDepth 100000 in
theorem c_X8_many_61 (l : Launch) (dC : Nat → ClassId) (dI : Nat → Nat → Nat) (cB cI cJ cZ cP cQ : ClassId) (ad : Nat → Nat) (sz : Nat) : Met l yX8_many wsX8_many ({ frames := 3, cells := 0, slots := 0, locals := 74 } : Room) (zPc [.ref (ad 0)] (dC, dI) (zT cB cI cJ cZ cP cQ) [(ad 0, .inr (8, xf0 ad)), (ad 23, .inr (5, xf23 ad)), (ad 39, .inr (1, xf39 ad)), (ad 40, .inl (cJ, 72, .inr (.inl (fun _ => 0)))), (ad 41, .inl (cJ, 72, .inr (.inl (fun _ => 0)))), (ad 42, .inl (cJ, 72, .inr (.inl (fun _ => 0))))] sz [(RX1, 44, yX8_thousandths, "MonthPush")] []) (va_Ql (fun r _ => (fun r => r = (-2000000000)) r) (zB (dC, dI) (zT cB cI cJ cZ cP cQ) (fun _ : Unit => []) [(ad 0, .inr (8, xf0 ad)), (ad 23, .inr (5, xf23 ad)), (ad 39, .inr (1, xf39 ad)), (ad 40, .inl (cJ, 72, .inr (.inl (fun _ => 0)))), (ad 41, .inl (cJ, 72, .inr (.inl (fun _ => 0)))), (ad 42, .inl (cJ, 72, .inr (.inl (fun _ => 0))))] sz) (va_A [(ad 0, .inr (8, xf0 ad)), (ad 23, .inr (5, xf23 ad)), (ad 39, .inr (1, xf39 ad)), (ad 40, .inl (cJ, 72, .inr (.inl (fun _ => 0)))), (ad 41, .inl (cJ, 72, .inr (.inl (fun _ => 0)))), (ad 42, .inl (cJ, 72, .inr (.inl (fun _ => 0))))] sz)) 0 0 (va_A [(ad 0, .inr (8, xf0 ad)), (ad 23, .inr (5, xf23 ad)), (ad 39, .inr (1, xf39 ad)), (ad 40, .inl (cJ, 72, .inr (.inl (fun _ => 0)))), (ad 41, .inl (cJ, 72, .inr (.inl (fun _ => 0)))), (ad 42, .inl (cJ, 72, .inr (.inl (fun _ => 0))))] sz) := by
  refine z_enter (cc := cX8_many) (maxL := 1) (ret := (some .long)) (by decide) rfl (Nat.le_of_ble_eq_true rfl) ?_
  intro p e s m below meth c A ls Q H locs hx hb hr hml hown hts hlocks hin hK hP hD hA hX hS hAe hQ hl
  have hown : s.vm.findClass RX8 = some m.cls := hown
  have hl : lv_has ls 1 [(0, .ref (ad 0))] := hl
  refine lv_aload_n hx hb dX8_many_0 rfl (lv_at hl 0 rfl) ?_
  refine z_finl (w' := fun (u1 : Unit) => [(ad 0, .inr (8, xf0 ad)), (ad 23, .inr (5, xf23 ad)), (ad 39, .inr (1, xf39 ad)), (ad 40, .inl (cJ, 72, .inr (.inl (fun _ => 0)))), (ad 41, .inl (cJ, 72, .inr (.inl (fun _ => 0)))), (ad 42, .inl (cJ, 72, .inr (.inl (fun _ => 0))))]) (va_runV (As := []) (rest := []) ⟨hx, hb, hml, hown, hts⟩ (c_X8_manyOf_61 l dC dI cB cI cJ cZ cP cQ ad H.size) (cwV 0 hts gX8_many_X8_manyOf rfl rfl rfl (by decide +kernel) ⟨Nat.le_of_ble_eq_true rfl, Nat.le_of_ble_eq_true rfl⟩) (z_pV (ci := 8) hK hP hD (zX_sub hX (by decide +kernel) (by decide +kernel)) [0, 1, 2, 3, 4, 5] (by decide) rfl rfl 0 rfl) rfl rfl hl.1 rfl (lv_room (Nat.le_of_ble_eq_true rfl)) dX8_many_1 ⟨Nat.le_of_ble_eq_true rfl, Nat.le_of_ble_eq_true rfl⟩) hP hD hS hA [0, 1, 2, 3, 4, 5] [] [0, 1, 2, 3, 4, 5] rfl rfl (by decide) (by decide) (fun _ => rfl) (by decide) (fun r2 u1 H locs hp3 hP hD hS => ?_)
  have hP : va_P (dC, dI) vwCl [(ad 0, .inr (8, xf0 ad)), (ad 23, .inr (5, xf23 ad)), (ad 39, .inr (1, xf39 ad)), (ad 40, .inl (cJ, 72, .inr (.inl (fun _ => 0)))), (ad 41, .inl (cJ, 72, .inr (.inl (fun _ => 0)))), (ad 42, .inl (cJ, 72, .inr (.inl (fun _ => 0))))] H := hP
  have hD : va_D A [(ad 0, .inr (8, xf0 ad)), (ad 23, .inr (5, xf23 ad)), (ad 39, .inr (1, xf39 ad)), (ad 40, .inl (cJ, 72, .inr (.inl (fun _ => 0)))), (ad 41, .inl (cJ, 72, .inr (.inl (fun _ => 0)))), (ad 42, .inl (cJ, 72, .inr (.inl (fun _ => 0))))] := hD
  refine W.widen (k := 0) (n := 0) (by decide) (by decide) ?_
  obtain rfl : r2 = (-9000000000000000000) := hp3
  refine z_finl (w' := fun (u4 : Unit) => [(ad 0, .inr (8, xf0 ad)), (ad 23, .inr (5, xf23 ad)), (ad 39, .inr (1, xf39 ad)), (ad 40, .inl (cJ, 72, .inr (.inl (fun _ => 0)))), (ad 41, .inl (cJ, 72, .inr (.inl (fun _ => 0)))), (ad 42, .inl (cJ, 72, .inr (.inl (fun _ => 0))))]) (va_runS (As := [.long (-9000000000000000000)]) (rest := []) ⟨hx, hb, hml, hown, hts⟩ (c_X8_toFace_49 l dC dI cB cI cJ cZ cP cQ H.size) (va_cwS 1 hts gX8_many_X8_toFace rfl rfl rfl (by decide +kernel) ⟨Nat.le_of_ble_eq_true rfl, Nat.le_of_ble_eq_true rfl⟩) (z_pS hK hP hD zX_nil [] (by decide) rfl) rfl rfl hl.1 rfl (lv_room (Nat.le_of_ble_eq_true rfl)) dX8_many_4 ⟨Nat.le_of_ble_eq_true rfl, Nat.le_of_ble_eq_true rfl⟩) hP hD hS hA [] [0, 1, 2, 3, 4, 5] [0, 1, 2, 3, 4, 5] rfl rfl (by decide) (by decide) (fun _ => rfl) (by decide) (fun r5 u4 H locs hp6 hP hD hS => ?_)
  have hP : va_P (dC, dI) vwCl [(ad 0, .inr (8, xf0 ad)), (ad 23, .inr (5, xf23 ad)), (ad 39, .inr (1, xf39 ad)), (ad 40, .inl (cJ, 72, .inr (.inl (fun _ => 0)))), (ad 41, .inl (cJ, 72, .inr (.inl (fun _ => 0)))), (ad 42, .inl (cJ, 72, .inr (.inl (fun _ => 0))))] H := hP
  have hD : va_D A [(ad 0, .inr (8, xf0 ad)), (ad 23, .inr (5, xf23 ad)), (ad 39, .inr (1, xf39 ad)), (ad 40, .inl (cJ, 72, .inr (.inl (fun _ => 0)))), (ad 41, .inl (cJ, 72, .inr (.inl (fun _ => 0)))), (ad 42, .inl (cJ, 72, .inr (.inl (fun _ => 0))))] := hD
  refine W.widen (k := 0) (n := 0) (by decide) (by decide) ?_
  obtain rfl : r5 = (-2000000000) := hp6
  have hP9 := hP.sub (ws' := []) [] rfl
  have hD9 := hD.sub (ws' := []) [] (by decide) rfl
  exact z_lret () hx hb hr hlocks hK hP9 hD9 hS hAe hQ rfl rfl dX8_many_7
set_option maxHeartbeats 4000000 in
set_option maxRecDepth 100000 in
theorem c_X1_filled_63 (l : Launch) (dC : Nat → ClassId) (dI : Nat → Nat → Nat) (cB cI cJ cZ cP cQ : ClassId) (ad : Nat → Nat) (sz : Nat) : Met l yX1_filled wsX1_filled ({ frames := 0, cells := 0, slots := 0, locals := 0 } : Room) (zPc [.ref (ad 39)] (dC, dI) (zT cB cI cJ cZ cP cQ) [(ad 39, .inr (1, xf39 ad)), (ad 40, .inl (cJ, 72, .inr (.inl (fun _ => 0))))] sz [] []) (va_Qi (fun r _ => (fun r => r = 0) r) (zB (dC, dI) (zT cB cI cJ cZ cP cQ) (fun _ : Unit => [(ad 39, .inr (1, xf39 ad)), (ad 40, .inl (cJ, 72, .inr (.inl (fun _ => 0))))]) [(ad 39, .inr (1, xf39 ad)), (ad 40, .inl (cJ, 72, .inr (.inl (fun _ => 0))))] sz) (va_A [(ad 39, .inr (1, xf39 ad)), (ad 40, .inl (cJ, 72, .inr (.inl (fun _ => 0))))] sz)) 0 0 (va_A [(ad 39, .inr (1, xf39 ad)), (ad 40, .inl (cJ, 72, .inr (.inl (fun _ => 0))))] sz) := by
  refine z_enter (cc := cX1_filled) (maxL := 3) (ret := (some .int)) (by decide) rfl (Nat.le_of_ble_eq_true rfl) ?_
  intro p e s m below meth c A ls Q H locs hx hb hr hml hown hts hlocks hin hK hP hD hA hX hS hAe hQ hl
  have hown : s.vm.findClass RX1 = some m.cls := hown
  have hi1 : ∀ w ∈ wsX10, w ∈ wsX1_filled := fun w h => List.mem_cons_of_mem _ (List.mem_append_right _ h)
  have hk0 := hts (.fieldLink RX1 11 "MonthPush$Groups" "size" "[J") (by decide +kernel)
  have hl : lv_has ls 3 [(0, .ref (ad 39))] := hl
  refine lv_iconst (v := 0) hx hb dX1_filled_0 (by decide) ?_
  refine lv_istore_n (lv' := [(1, .int 0), (0, .ref (ad 39))]) hx hb dX1_filled_1 rfl hl (by decide) rfl (fun ls hl => ?_)
  refine lv_iconst (v := 0) hx hb dX1_filled_2 (by decide) ?_
  refine lv_istore_n (lv' := [(2, .int 0), (1, .int 0), (0, .ref (ad 39))]) hx hb dX1_filled_3 rfl hl (by decide) rfl (fun ls hl => ?_)
  have hlp1 : ∀ (n i : Nat), i + n = 72 → 0 ≤ i → ∀ (H : Heap) (locs : List Loc), va_P (dC, dI) vwCl [(ad 39, .inr (1, xf39 ad)), (ad 40, .inl (cJ, 72, .inr (.inl (fun _ => 0))))] H → va_S A s.heap H locs → ∀ (ls : Array Slot), lv_has ls 3 [(2, .int (nI i)), (1, .int 0), (0, .ref (ad 39))] → W p l e ({ frames := 0, cells := 0, slots := 0, locals := 0 } : Room) s m ([.ref (ad 39)] : List Value).toArray below meth c H locs 0 0 Q (F0 m 4 ls []) := by
    intro n
    induction n with
    | zero =>
      intro i hi hi0 H locs hP hS ls hl
      obtain rfl : i = 72 := by omega
      have hl : lv_has ls 3 [(2, .int 72), (1, .int 0), (0, .ref (ad 39))] := hl
      refine lv_iload_n hx hb dX1_filled_4 rfl (lv_at hl 0 rfl) ?_
      refine lv_bipush (v := 72) hx hb dX1_filled_5 (by decide) ?_
      refine lv_icmp_ge (tgt := 30) hx hb dX1_filled_7 (by decide) (fun _ => ?_) (fun c => absurd (by decide) c)
      refine lv_iload_n hx hb dX1_filled_30 rfl (lv_at hl 1 rfl) ?_
      exact z_iret () hx hb hr hlocks hK hP hD hS hAe hQ rfl rfl dX1_filled_31
    | succ n ih =>
      intro i hi hi0 H locs hP hS ls hl
      have hlt : i < 72 := by omega
      refine lv_iload_n hx hb dX1_filled_4 rfl (lv_at hl 0 rfl) ?_
      refine lv_bipush (v := 72) hx hb dX1_filled_5 (by decide) ?_
      refine lv_icmp_ge (tgt := 30) hx hb dX1_filled_7 (by decide) (fun c => absurd (show 72 ≤ (i : Int) from z_le (by decide) (nI_toInt (by omega)) c) (by omega)) (fun _ => ?_)
      refine lv_aload_n hx hb dX1_filled_10 rfl (lv_at hl 2 rfl) ?_
      refine va_get (D := (dC, dI)) (ci := 1) (v := .ref (ad 40)) (C := RX1) (T := TX1) (N := 3) hx hb hts hi1 hown hK hP 0 rfl rfl 0 (by decide) hk0 (fun _ h9 => h9) rfl dX1_filled_11 ?_
      refine lv_iload_n hx hb dX1_filled_14 rfl (lv_at hl 0 rfl) ?_
      refine va_lald hx hb hK hP 1 2 rfl rfl (z_in (nI_toInt (by omega)) (by omega) (by omega)) dX1_filled_15 ?_
      refine z_topl (y := 0) rfl ?_
      refine lv_lconst (v := 0) hx hb dX1_filled_16 (by decide) ?_
      refine W.lcmp hx hb dX1_filled_17 ?_
      refine z_topi (y := 0) (by decide +kernel) ?_
      refine lv_if_le (tgt := 24) hx hb dX1_filled_18 (by decide) (fun _ => ?_) (fun c => absurd (by decide) c)
      refine lv_iinc (v := nI (i + 1)) (lv' := [(2, .int (nI (i + 1))), (1, .int 0), (0, .ref (ad 39))]) hx hb dX1_filled_24 hl (k := 0) rfl (nI_1 i) (by decide) rfl (fun ls hl => ?_)
      refine lv_goto (tgt := 4) hx hb dX1_filled_27 (by decide) ?_
      exact ih (i + 1) (by omega) (by omega) _ _ hP hS ls (lv_sub hl [0, 1, 2] rfl)
  exact hlp1 72 0 rfl (by omega) _ _ hP hS ls (lv_sub hl [0, 1, 2] rfl)
set_option maxHeartbeats 4000000 in
set_option maxRecDepth 100000 in
theorem c_X8_groups_63 (l : Launch) (dC : Nat → ClassId) (dI : Nat → Nat → Nat) (cB cI cJ cZ cP cQ : ClassId) (ad : Nat → Nat) (sz : Nat) : Met l yX8_groups wsX8_groups ({ frames := 2, cells := 0, slots := 0, locals := 47 } : Room) (zPc [.ref (ad 0)] (dC, dI) (zT cB cI cJ cZ cP cQ) [(ad 0, .inr (8, xf0 ad)), (ad 23, .inr (5, xf23 ad)), (ad 39, .inr (1, xf39 ad)), (ad 40, .inl (cJ, 72, .inr (.inl (fun _ => 0)))), (ad 41, .inl (cJ, 72, .inr (.inl (fun _ => 0)))), (ad 42, .inl (cJ, 72, .inr (.inl (fun _ => 0))))] sz [] []) (va_Qi (fun r _ => (fun r => r = 0) r) (zB (dC, dI) (zT cB cI cJ cZ cP cQ) (fun _ : Unit => []) [(ad 0, .inr (8, xf0 ad)), (ad 23, .inr (5, xf23 ad)), (ad 39, .inr (1, xf39 ad)), (ad 40, .inl (cJ, 72, .inr (.inl (fun _ => 0)))), (ad 41, .inl (cJ, 72, .inr (.inl (fun _ => 0)))), (ad 42, .inl (cJ, 72, .inr (.inl (fun _ => 0))))] sz) (va_A [(ad 0, .inr (8, xf0 ad)), (ad 23, .inr (5, xf23 ad)), (ad 39, .inr (1, xf39 ad)), (ad 40, .inl (cJ, 72, .inr (.inl (fun _ => 0)))), (ad 41, .inl (cJ, 72, .inr (.inl (fun _ => 0)))), (ad 42, .inl (cJ, 72, .inr (.inl (fun _ => 0))))] sz)) 0 0 (va_A [(ad 0, .inr (8, xf0 ad)), (ad 23, .inr (5, xf23 ad)), (ad 39, .inr (1, xf39 ad)), (ad 40, .inl (cJ, 72, .inr (.inl (fun _ => 0)))), (ad 41, .inl (cJ, 72, .inr (.inl (fun _ => 0)))), (ad 42, .inl (cJ, 72, .inr (.inl (fun _ => 0))))] sz) := by
  refine z_enter (cc := cX8_groups) (maxL := 1) (ret := (some .int)) (by decide) rfl (Nat.le_of_ble_eq_true rfl) ?_
  intro p e s m below meth c A ls Q H locs hx hb hr hml hown hts hlocks hin hK hP hD hA hX hS hAe hQ hl
  have hown : s.vm.findClass RX8 = some m.cls := hown
  have hi8 : ∀ w ∈ wsX80, w ∈ wsX8_groups := fun w h => List.mem_cons_of_mem _ (List.mem_append_left _ (List.mem_append_left _ (List.mem_append_right _ h)))
  have hk0 := hts (.fieldLink RX8 53 "MonthPush" "grouped" "LMonthPush$Groups;") (by decide +kernel)
  have hk1 := hts (.fieldLink RX8 29 "MonthPush" "all" "LMonthPush$Sheets;") (by decide +kernel)
  have hl : lv_has ls 1 [(0, .ref (ad 0))] := hl
  refine lv_aload_n hx hb dX8_groups_0 rfl (lv_at hl 0 rfl) ?_
  refine va_get (D := (dC, dI)) (ci := 8) (v := .ref (ad 39)) (C := RX8) (T := TX8) (N := 10) hx hb hts hi8 hown hK hP 0 rfl rfl 7 (by decide) hk0 (fun _ h9 => h9) rfl dX8_groups_1 ?_
  refine lv_aload_n hx hb dX8_groups_4 rfl (lv_at hl 0 rfl) ?_
  refine va_get (D := (dC, dI)) (ci := 8) (v := .ref (ad 23)) (C := RX8) (T := TX8) (N := 10) hx hb hts hi8 hown hK hP 0 rfl rfl 3 (by decide) hk1 (fun _ h9 => h9) rfl dX8_groups_5 ?_
  refine z_finv (w' := fun (u1 : Unit) => [(ad 0, .inr (8, xf0 ad)), (ad 23, .inr (5, xf23 ad)), (ad 39, .inr (1, xf39 ad)), (ad 40, .inl (cJ, 72, .inr (.inl (fun _ => 0)))), (ad 41, .inl (cJ, 72, .inr (.inl (fun _ => 0)))), (ad 42, .inl (cJ, 72, .inr (.inl (fun _ => 0))))]) (va_runV (As := [.ref (ad 23)]) (rest := []) ⟨hx, hb, hml, hown, hts⟩ (c_X1_takeAll_60 l dC dI cB cI cJ cZ cP cQ ad H.size) (cwV 1 hts gX8_groups_X1_takeAll rfl rfl rfl (by decide +kernel) ⟨Nat.le_of_ble_eq_true rfl, Nat.le_of_ble_eq_true rfl⟩) (z_pV (ci := 1) hK hP hD zX_nil [1, 2, 3, 4, 5] (by decide) rfl rfl 2 rfl) rfl rfl hl.1 rfl (lv_room (Nat.le_of_ble_eq_true rfl)) dX8_groups_8 ⟨Nat.le_of_ble_eq_true rfl, Nat.le_of_ble_eq_true rfl⟩) hP hD hS hA [1, 2, 3, 4, 5] [0] [0, 1, 2, 3, 4, 5] rfl rfl (by decide) (by decide) (fun _ => rfl) (by decide) (fun u1 H locs hp3 hP hD hS => ?_)
  have hP : va_P (dC, dI) vwCl [(ad 0, .inr (8, xf0 ad)), (ad 23, .inr (5, xf23 ad)), (ad 39, .inr (1, xf39 ad)), (ad 40, .inl (cJ, 72, .inr (.inl (fun _ => 0)))), (ad 41, .inl (cJ, 72, .inr (.inl (fun _ => 0)))), (ad 42, .inl (cJ, 72, .inr (.inl (fun _ => 0))))] H := hP
  have hD : va_D A [(ad 0, .inr (8, xf0 ad)), (ad 23, .inr (5, xf23 ad)), (ad 39, .inr (1, xf39 ad)), (ad 40, .inl (cJ, 72, .inr (.inl (fun _ => 0)))), (ad 41, .inl (cJ, 72, .inr (.inl (fun _ => 0)))), (ad 42, .inl (cJ, 72, .inr (.inl (fun _ => 0))))] := hD
  refine W.widen (k := 0) (n := 0) (by decide) (by decide) ?_
  refine lv_aload_n hx hb dX8_groups_11 rfl (lv_at hl 0 rfl) ?_
  refine va_get (D := (dC, dI)) (ci := 8) (v := .ref (ad 39)) (C := RX8) (T := TX8) (N := 10) hx hb hts hi8 hown hK hP 0 rfl rfl 7 (by decide) hk0 (fun _ h9 => h9) rfl dX8_groups_12 ?_
  refine z_fini (w' := fun (u4 : Unit) => [(ad 0, .inr (8, xf0 ad)), (ad 23, .inr (5, xf23 ad)), (ad 39, .inr (1, xf39 ad)), (ad 40, .inl (cJ, 72, .inr (.inl (fun _ => 0)))), (ad 41, .inl (cJ, 72, .inr (.inl (fun _ => 0)))), (ad 42, .inl (cJ, 72, .inr (.inl (fun _ => 0))))]) (va_runV (As := []) (rest := []) ⟨hx, hb, hml, hown, hts⟩ (c_X1_filled_63 l dC dI cB cI cJ cZ cP cQ ad H.size) (cwV 0 hts gX8_groups_X1_filled rfl rfl rfl (by decide +kernel) ⟨Nat.le_of_ble_eq_true rfl, Nat.le_of_ble_eq_true rfl⟩) (z_pV (ci := 1) hK hP hD zX_nil [2, 3] (by decide) rfl rfl 2 rfl) rfl rfl hl.1 rfl (lv_room (Nat.le_of_ble_eq_true rfl)) dX8_groups_15 ⟨Nat.le_of_ble_eq_true rfl, Nat.le_of_ble_eq_true rfl⟩) hP hD hS hA [2, 3] [0, 1, 4, 5] [0, 1, 4, 5, 2, 3] rfl rfl (by decide) (by decide) (fun _ => rfl) (by decide) (fun r5 u4 H locs hp6 hP hD hS => ?_)
  have hP : va_P (dC, dI) vwCl [(ad 0, .inr (8, xf0 ad)), (ad 23, .inr (5, xf23 ad)), (ad 39, .inr (1, xf39 ad)), (ad 40, .inl (cJ, 72, .inr (.inl (fun _ => 0)))), (ad 41, .inl (cJ, 72, .inr (.inl (fun _ => 0)))), (ad 42, .inl (cJ, 72, .inr (.inl (fun _ => 0))))] H := hP
  have hD : va_D A [(ad 0, .inr (8, xf0 ad)), (ad 23, .inr (5, xf23 ad)), (ad 39, .inr (1, xf39 ad)), (ad 40, .inl (cJ, 72, .inr (.inl (fun _ => 0)))), (ad 41, .inl (cJ, 72, .inr (.inl (fun _ => 0)))), (ad 42, .inl (cJ, 72, .inr (.inl (fun _ => 0))))] := hD
  refine W.widen (k := 0) (n := 0) (by decide) (by decide) ?_
  obtain rfl : r5 = 0 := hp6
  have hP9 := hP.sub (ws' := []) [] rfl
  have hD9 := hD.sub (ws' := []) [] (by decide) rfl
  exact z_iret () hx hb hr hlocks hK hP9 hD9 hS hAe hQ rfl rfl dX8_groups_18
set_option maxHeartbeats 4000000 in
set_option maxRecDepth 100000 in
theorem c_X6_meanGap_65 (l : Launch) (dC : Nat → ClassId) (dI : Nat → Nat → Nat) (cB cI cJ cZ cP cQ : ClassId) (ad : Nat → Nat) (sz : Nat) : Met l yX6_meanGap wsX6_meanGap ({ frames := 1, cells := 0, slots := 0, locals := 20 } : Room) (zPc [.ref (ad 38), .long 0, .long 0] (dC, dI) (zT cB cI cJ cZ cP cQ) [(ad 38, .inr (6, xf38 ad))] sz [] []) (va_Ql (fun r _ => (fun r => r = (-9000000000000000000)) r) (zB (dC, dI) (zT cB cI cJ cZ cP cQ) (fun _ : Unit => [(ad 38, .inr (6, xf38 ad))]) [(ad 38, .inr (6, xf38 ad))] sz) (va_A [(ad 38, .inr (6, xf38 ad))] sz)) 0 0 (va_A [(ad 38, .inr (6, xf38 ad))] sz) := by
  refine z_enter (cc := cX6_meanGap) (maxL := 5) (ret := (some .long)) (by decide) rfl (Nat.le_of_ble_eq_true rfl) ?_
  intro p e s m below meth c A ls Q H locs hx hb hr hml hown hts hlocks hin hK hP hD hA hX hS hAe hQ hl
  have hown : s.vm.findClass RX6 = some m.cls := hown
  have hk0 := hts (.constantLong RX6 64 (-9000000000000000000)) (by decide +kernel)
  have hl : lv_has ls 5 [(0, .ref (ad 38)), (1, .long 0), (3, .long 0)] := hl
  refine lv_aload_n hx hb dX6_meanGap_0 rfl (lv_at hl 0 rfl) ?_
  refine z_fini (w' := fun (u1 : Unit) => [(ad 38, .inr (6, xf38 ad))]) (va_runV (As := []) (rest := []) ⟨hx, hb, hml, hown, hts⟩ (c_X6_hasBoth_57 l dC dI cB cI cJ cZ cP cQ ad H.size) (cwV 0 hts gX6_meanGap_X6_hasBoth rfl rfl rfl (by decide +kernel) ⟨Nat.le_of_ble_eq_true rfl, Nat.le_of_ble_eq_true rfl⟩) (z_pV (ci := 6) hK hP hD zX_nil [0] (by decide) rfl rfl 0 rfl) rfl rfl hl.1 rfl (lv_room (Nat.le_of_ble_eq_true rfl)) dX6_meanGap_1 ⟨Nat.le_of_ble_eq_true rfl, Nat.le_of_ble_eq_true rfl⟩) hP hD hS hA [0] [] [0] rfl rfl (by decide) (by decide) (fun _ => rfl) (by decide) (fun r2 u1 H locs hp3 hP hD hS => ?_)
  have hP : va_P (dC, dI) vwCl [(ad 38, .inr (6, xf38 ad))] H := hP
  have hD : va_D A [(ad 38, .inr (6, xf38 ad))] := hD
  refine W.widen (k := 0) (n := 0) (by decide) (by decide) ?_
  obtain rfl : r2 = 0 := hp3
  refine lv_if_eq (tgt := 28) hx hb dX6_meanGap_4 (by decide) (fun _ => ?_) (fun c => absurd (by decide) c)
  refine lv_ldc2 hx hb hown hk0 dX6_meanGap_28 ?_
  exact z_lret () hx hb hr hlocks hK hP hD hS hAe hQ rfl rfl dX6_meanGap_31
set_option maxHeartbeats 4000000 in
set_option maxRecDepth 100000 in
theorem c_X8_moves_65 (l : Launch) (dC : Nat → ClassId) (dI : Nat → Nat → Nat) (cB cI cJ cZ cP cQ : ClassId) (ad : Nat → Nat) (sz : Nat) (p1 : Int32) : Met l yX8_moves wsX8_moves ({ frames := 3, cells := 0, slots := 0, locals := 65 } : Room) (zPc [.ref (ad 0), .int p1] (dC, dI) (zT cB cI cJ cZ cP cQ) [(ad 0, .inr (8, xf0 ad)), (ad 23, .inr (5, xf23 ad)), (ad 38, .inr (6, xf38 ad))] sz [] []) (va_Ql (fun r _ => (fun r => (r = (-2000000000) ∧ p1.toInt < 1) ∨ (r = (-2000000000) ∧ 1 ≤ p1.toInt ∧ 4094 < p1.toInt) ∨ (r = (-2000000000) ∧ 1 ≤ p1.toInt ∧ p1.toInt ≤ 4094)) r) (zB (dC, dI) (zT cB cI cJ cZ cP cQ) (fun _ : Unit => []) [(ad 0, .inr (8, xf0 ad)), (ad 23, .inr (5, xf23 ad)), (ad 38, .inr (6, xf38 ad))] sz) (va_A [(ad 0, .inr (8, xf0 ad)), (ad 23, .inr (5, xf23 ad)), (ad 38, .inr (6, xf38 ad))] sz)) 0 0 (va_A [(ad 0, .inr (8, xf0 ad)), (ad 23, .inr (5, xf23 ad)), (ad 38, .inr (6, xf38 ad))] sz) := by
  refine z_enter (cc := cX8_moves) (maxL := 3) (ret := (some .long)) (by decide) rfl (Nat.le_of_ble_eq_true rfl) ?_
  intro p e s m below meth c A ls Q H locs hx hb hr hml hown hts hlocks hin hK hP hD hA hX hS hAe hQ hl
  have hown : s.vm.findClass RX8 = some m.cls := hown
  have hi6 : ∀ w ∈ wsX60, w ∈ wsX8_moves := fun w h => List.mem_cons_of_mem _ (List.mem_append_left _ (List.mem_append_right _ h))
  have hi8 : ∀ w ∈ wsX80, w ∈ wsX8_moves := fun w h => List.mem_cons_of_mem _ (List.mem_append_left _ (List.mem_append_left _ (List.mem_append_right _ h)))
  have hk0 := hts (.fieldLink RX8 29 "MonthPush" "all" "LMonthPush$Sheets;") (by decide +kernel)
  have hk1 := hts (.fieldLink RX8 242 "MonthPush$Split" "school" "J") (by decide +kernel)
  have hk2 := hts (.fieldLink RX8 273 "MonthPush$Split" "otherSchool" "J") (by decide +kernel)
  have hl : lv_has ls 3 [(0, .ref (ad 0)), (1, .int p1)] := hl
  refine lv_aload_n hx hb dX8_moves_0 rfl (lv_at hl 0 rfl) ?_
  refine lv_aload_n hx hb dX8_moves_1 rfl (lv_at hl 0 rfl) ?_
  refine va_get (D := (dC, dI)) (ci := 8) (v := .ref (ad 23)) (C := RX8) (T := TX8) (N := 10) hx hb hts hi8 hown hK hP 0 rfl rfl 3 (by decide) hk0 (fun _ h9 => h9) rfl dX8_moves_2 ?_
  refine lv_iload_n hx hb dX8_moves_5 rfl (lv_at hl 1 rfl) ?_
  refine z_finr (w' := fun (u1 : Unit) => [(ad 0, .inr (8, xf0 ad)), (ad 23, .inr (5, xf23 ad)), (ad 38, .inr (6, xf38 ad))]) (va_runV (As := [.ref (ad 23), .int p1]) (rest := []) ⟨hx, hb, hml, hown, hts⟩ (c_X8_divided_53 l dC dI cB cI cJ cZ cP cQ ad H.size p1) (cwV 2 hts gX8_moves_X8_divided rfl rfl rfl (by decide +kernel) ⟨Nat.le_of_ble_eq_true rfl, Nat.le_of_ble_eq_true rfl⟩) (z_pV (ci := 8) hK hP hD zX_nil [0, 1, 2] (by decide) rfl rfl 0 rfl) rfl rfl hl.1 rfl (lv_room (Nat.le_of_ble_eq_true rfl)) dX8_moves_6 ⟨Nat.le_of_ble_eq_true rfl, Nat.le_of_ble_eq_true rfl⟩) hP hD hS hA [0, 1, 2] [] [0, 1, 2] rfl rfl (by decide) (by decide) (fun _ => rfl) (by decide) (fun u1 H locs hp3 hP hD hS => ?_)
  have hP : va_P (dC, dI) vwCl [(ad 0, .inr (8, xf0 ad)), (ad 23, .inr (5, xf23 ad)), (ad 38, .inr (6, xf38 ad))] H := hP
  have hD : va_D A [(ad 0, .inr (8, xf0 ad)), (ad 23, .inr (5, xf23 ad)), (ad 38, .inr (6, xf38 ad))] := hD
  refine W.widen (k := 0) (n := 0) (by decide) (by decide) ?_
  rcases hp3 with f4 | ⟨f5, f6⟩ | ⟨f7, f8⟩
  · refine lv_astore_n (lv' := [(2, .ref (ad 38)), (0, .ref (ad 0)), (1, .int p1)]) hx hb dX8_moves_9 rfl hl (by decide) rfl (fun ls hl => ?_)
    refine lv_aload_n hx hb dX8_moves_10 rfl (lv_at hl 0 rfl) ?_
    refine lv_aload_n hx hb dX8_moves_11 rfl (lv_at hl 0 rfl) ?_
    refine va_get (D := (dC, dI)) (ci := 6) (v := .long 0) (C := RX6) (T := TX6) (N := 11) hx hb hts hi6 hown hK hP 2 rfl rfl 1 (by decide) hk1 (fun _ h9 => h9) rfl dX8_moves_12 ?_
    refine lv_aload_n hx hb dX8_moves_15 rfl (lv_at hl 0 rfl) ?_
    refine va_get (D := (dC, dI)) (ci := 6) (v := .long 0) (C := RX6) (T := TX6) (N := 11) hx hb hts hi6 hown hK hP 2 rfl rfl 5 (by decide) hk2 (fun _ h9 => h9) rfl dX8_moves_16 ?_
    refine z_finl (w' := fun (u9 : Unit) => [(ad 0, .inr (8, xf0 ad)), (ad 23, .inr (5, xf23 ad)), (ad 38, .inr (6, xf38 ad))]) (va_runV (As := [.long 0, .long 0]) (rest := []) ⟨hx, hb, hml, hown, hts⟩ (c_X6_meanGap_65 l dC dI cB cI cJ cZ cP cQ ad H.size) (cwV 2 hts gX8_moves_X6_meanGap rfl rfl rfl (by decide +kernel) ⟨Nat.le_of_ble_eq_true rfl, Nat.le_of_ble_eq_true rfl⟩) (z_pV (ci := 6) hK hP hD zX_nil [2] (by decide) rfl rfl 2 rfl) rfl rfl hl.1 rfl (lv_room (Nat.le_of_ble_eq_true rfl)) dX8_moves_19 ⟨Nat.le_of_ble_eq_true rfl, Nat.le_of_ble_eq_true rfl⟩) hP hD hS hA [2] [0, 1] [0, 1, 2] rfl rfl (by decide) (by decide) (fun _ => rfl) (by decide) (fun r10 u9 H locs hp11 hP hD hS => ?_)
    have hP : va_P (dC, dI) vwCl [(ad 0, .inr (8, xf0 ad)), (ad 23, .inr (5, xf23 ad)), (ad 38, .inr (6, xf38 ad))] H := hP
    have hD : va_D A [(ad 0, .inr (8, xf0 ad)), (ad 23, .inr (5, xf23 ad)), (ad 38, .inr (6, xf38 ad))] := hD
    refine W.widen (k := 0) (n := 0) (by decide) (by decide) ?_
    obtain rfl : r10 = (-9000000000000000000) := hp11
    refine z_finl (w' := fun (u12 : Unit) => [(ad 0, .inr (8, xf0 ad)), (ad 23, .inr (5, xf23 ad)), (ad 38, .inr (6, xf38 ad))]) (va_runS (As := [.long (-9000000000000000000)]) (rest := []) ⟨hx, hb, hml, hown, hts⟩ (c_X8_toFace_49 l dC dI cB cI cJ cZ cP cQ H.size) (va_cwS 1 hts gX8_moves_X8_toFace rfl rfl rfl (by decide +kernel) ⟨Nat.le_of_ble_eq_true rfl, Nat.le_of_ble_eq_true rfl⟩) (z_pS hK hP hD zX_nil [] (by decide) rfl) rfl rfl hl.1 rfl (lv_room (Nat.le_of_ble_eq_true rfl)) dX8_moves_22 ⟨Nat.le_of_ble_eq_true rfl, Nat.le_of_ble_eq_true rfl⟩) hP hD hS hA [] [0, 1, 2] [0, 1, 2] rfl rfl (by decide) (by decide) (fun _ => rfl) (by decide) (fun r13 u12 H locs hp14 hP hD hS => ?_)
    have hP : va_P (dC, dI) vwCl [(ad 0, .inr (8, xf0 ad)), (ad 23, .inr (5, xf23 ad)), (ad 38, .inr (6, xf38 ad))] H := hP
    have hD : va_D A [(ad 0, .inr (8, xf0 ad)), (ad 23, .inr (5, xf23 ad)), (ad 38, .inr (6, xf38 ad))] := hD
    refine W.widen (k := 0) (n := 0) (by decide) (by decide) ?_
    obtain rfl : r13 = (-2000000000) := hp14
    have hP9 := hP.sub (ws' := []) [] rfl
    have hD9 := hD.sub (ws' := []) [] (by decide) rfl
    exact z_lret () hx hb hr hlocks hK hP9 hD9 hS hAe hQ rfl (Or.inl (⟨rfl, f4⟩)) dX8_moves_25
  · refine lv_astore_n (lv' := [(2, .ref (ad 38)), (0, .ref (ad 0)), (1, .int p1)]) hx hb dX8_moves_9 rfl hl (by decide) rfl (fun ls hl => ?_)
    refine lv_aload_n hx hb dX8_moves_10 rfl (lv_at hl 0 rfl) ?_
    refine lv_aload_n hx hb dX8_moves_11 rfl (lv_at hl 0 rfl) ?_
    refine va_get (D := (dC, dI)) (ci := 6) (v := .long 0) (C := RX6) (T := TX6) (N := 11) hx hb hts hi6 hown hK hP 2 rfl rfl 1 (by decide) hk1 (fun _ h9 => h9) rfl dX8_moves_12 ?_
    refine lv_aload_n hx hb dX8_moves_15 rfl (lv_at hl 0 rfl) ?_
    refine va_get (D := (dC, dI)) (ci := 6) (v := .long 0) (C := RX6) (T := TX6) (N := 11) hx hb hts hi6 hown hK hP 2 rfl rfl 5 (by decide) hk2 (fun _ h9 => h9) rfl dX8_moves_16 ?_
    refine z_finl (w' := fun (u15 : Unit) => [(ad 0, .inr (8, xf0 ad)), (ad 23, .inr (5, xf23 ad)), (ad 38, .inr (6, xf38 ad))]) (va_runV (As := [.long 0, .long 0]) (rest := []) ⟨hx, hb, hml, hown, hts⟩ (c_X6_meanGap_65 l dC dI cB cI cJ cZ cP cQ ad H.size) (cwV 2 hts gX8_moves_X6_meanGap rfl rfl rfl (by decide +kernel) ⟨Nat.le_of_ble_eq_true rfl, Nat.le_of_ble_eq_true rfl⟩) (z_pV (ci := 6) hK hP hD zX_nil [2] (by decide) rfl rfl 2 rfl) rfl rfl hl.1 rfl (lv_room (Nat.le_of_ble_eq_true rfl)) dX8_moves_19 ⟨Nat.le_of_ble_eq_true rfl, Nat.le_of_ble_eq_true rfl⟩) hP hD hS hA [2] [0, 1] [0, 1, 2] rfl rfl (by decide) (by decide) (fun _ => rfl) (by decide) (fun r16 u15 H locs hp17 hP hD hS => ?_)
    have hP : va_P (dC, dI) vwCl [(ad 0, .inr (8, xf0 ad)), (ad 23, .inr (5, xf23 ad)), (ad 38, .inr (6, xf38 ad))] H := hP
    have hD : va_D A [(ad 0, .inr (8, xf0 ad)), (ad 23, .inr (5, xf23 ad)), (ad 38, .inr (6, xf38 ad))] := hD
    refine W.widen (k := 0) (n := 0) (by decide) (by decide) ?_
    obtain rfl : r16 = (-9000000000000000000) := hp17
    refine z_finl (w' := fun (u18 : Unit) => [(ad 0, .inr (8, xf0 ad)), (ad 23, .inr (5, xf23 ad)), (ad 38, .inr (6, xf38 ad))]) (va_runS (As := [.long (-9000000000000000000)]) (rest := []) ⟨hx, hb, hml, hown, hts⟩ (c_X8_toFace_49 l dC dI cB cI cJ cZ cP cQ H.size) (va_cwS 1 hts gX8_moves_X8_toFace rfl rfl rfl (by decide +kernel) ⟨Nat.le_of_ble_eq_true rfl, Nat.le_of_ble_eq_true rfl⟩) (z_pS hK hP hD zX_nil [] (by decide) rfl) rfl rfl hl.1 rfl (lv_room (Nat.le_of_ble_eq_true rfl)) dX8_moves_22 ⟨Nat.le_of_ble_eq_true rfl, Nat.le_of_ble_eq_true rfl⟩) hP hD hS hA [] [0, 1, 2] [0, 1, 2] rfl rfl (by decide) (by decide) (fun _ => rfl) (by decide) (fun r19 u18 H locs hp20 hP hD hS => ?_)
    have hP : va_P (dC, dI) vwCl [(ad 0, .inr (8, xf0 ad)), (ad 23, .inr (5, xf23 ad)), (ad 38, .inr (6, xf38 ad))] H := hP
    have hD : va_D A [(ad 0, .inr (8, xf0 ad)), (ad 23, .inr (5, xf23 ad)), (ad 38, .inr (6, xf38 ad))] := hD
    refine W.widen (k := 0) (n := 0) (by decide) (by decide) ?_
    obtain rfl : r19 = (-2000000000) := hp20
    have hP9 := hP.sub (ws' := []) [] rfl
    have hD9 := hD.sub (ws' := []) [] (by decide) rfl
    exact z_lret () hx hb hr hlocks hK hP9 hD9 hS hAe hQ rfl (Or.inr (Or.inl ⟨rfl, f5, f6⟩)) dX8_moves_25
  · refine lv_astore_n (lv' := [(2, .ref (ad 38)), (0, .ref (ad 0)), (1, .int p1)]) hx hb dX8_moves_9 rfl hl (by decide) rfl (fun ls hl => ?_)
    refine lv_aload_n hx hb dX8_moves_10 rfl (lv_at hl 0 rfl) ?_
    refine lv_aload_n hx hb dX8_moves_11 rfl (lv_at hl 0 rfl) ?_
    refine va_get (D := (dC, dI)) (ci := 6) (v := .long 0) (C := RX6) (T := TX6) (N := 11) hx hb hts hi6 hown hK hP 2 rfl rfl 1 (by decide) hk1 (fun _ h9 => h9) rfl dX8_moves_12 ?_
    refine lv_aload_n hx hb dX8_moves_15 rfl (lv_at hl 0 rfl) ?_
    refine va_get (D := (dC, dI)) (ci := 6) (v := .long 0) (C := RX6) (T := TX6) (N := 11) hx hb hts hi6 hown hK hP 2 rfl rfl 5 (by decide) hk2 (fun _ h9 => h9) rfl dX8_moves_16 ?_
    refine z_finl (w' := fun (u21 : Unit) => [(ad 0, .inr (8, xf0 ad)), (ad 23, .inr (5, xf23 ad)), (ad 38, .inr (6, xf38 ad))]) (va_runV (As := [.long 0, .long 0]) (rest := []) ⟨hx, hb, hml, hown, hts⟩ (c_X6_meanGap_65 l dC dI cB cI cJ cZ cP cQ ad H.size) (cwV 2 hts gX8_moves_X6_meanGap rfl rfl rfl (by decide +kernel) ⟨Nat.le_of_ble_eq_true rfl, Nat.le_of_ble_eq_true rfl⟩) (z_pV (ci := 6) hK hP hD zX_nil [2] (by decide) rfl rfl 2 rfl) rfl rfl hl.1 rfl (lv_room (Nat.le_of_ble_eq_true rfl)) dX8_moves_19 ⟨Nat.le_of_ble_eq_true rfl, Nat.le_of_ble_eq_true rfl⟩) hP hD hS hA [2] [0, 1] [0, 1, 2] rfl rfl (by decide) (by decide) (fun _ => rfl) (by decide) (fun r22 u21 H locs hp23 hP hD hS => ?_)
    have hP : va_P (dC, dI) vwCl [(ad 0, .inr (8, xf0 ad)), (ad 23, .inr (5, xf23 ad)), (ad 38, .inr (6, xf38 ad))] H := hP
    have hD : va_D A [(ad 0, .inr (8, xf0 ad)), (ad 23, .inr (5, xf23 ad)), (ad 38, .inr (6, xf38 ad))] := hD
    refine W.widen (k := 0) (n := 0) (by decide) (by decide) ?_
    obtain rfl : r22 = (-9000000000000000000) := hp23
    refine z_finl (w' := fun (u24 : Unit) => [(ad 0, .inr (8, xf0 ad)), (ad 23, .inr (5, xf23 ad)), (ad 38, .inr (6, xf38 ad))]) (va_runS (As := [.long (-9000000000000000000)]) (rest := []) ⟨hx, hb, hml, hown, hts⟩ (c_X8_toFace_49 l dC dI cB cI cJ cZ cP cQ H.size) (va_cwS 1 hts gX8_moves_X8_toFace rfl rfl rfl (by decide +kernel) ⟨Nat.le_of_ble_eq_true rfl, Nat.le_of_ble_eq_true rfl⟩) (z_pS hK hP hD zX_nil [] (by decide) rfl) rfl rfl hl.1 rfl (lv_room (Nat.le_of_ble_eq_true rfl)) dX8_moves_22 ⟨Nat.le_of_ble_eq_true rfl, Nat.le_of_ble_eq_true rfl⟩) hP hD hS hA [] [0, 1, 2] [0, 1, 2] rfl rfl (by decide) (by decide) (fun _ => rfl) (by decide) (fun r25 u24 H locs hp26 hP hD hS => ?_)
    have hP : va_P (dC, dI) vwCl [(ad 0, .inr (8, xf0 ad)), (ad 23, .inr (5, xf23 ad)), (ad 38, .inr (6, xf38 ad))] H := hP
    have hD : va_D A [(ad 0, .inr (8, xf0 ad)), (ad 23, .inr (5, xf23 ad)), (ad 38, .inr (6, xf38 ad))] := hD
    refine W.widen (k := 0) (n := 0) (by decide) (by decide) ?_
    obtain rfl : r25 = (-2000000000) := hp26
    have hP9 := hP.sub (ws' := []) [] rfl
    have hD9 := hD.sub (ws' := []) [] (by decide) rfl
    exact z_lret () hx hb hr hlocks hK hP9 hD9 hS hAe hQ rfl (Or.inr (Or.inr ⟨rfl, f7, f8⟩)) dX8_moves_25
set_option maxHeartbeats 4000000 in
set_option maxRecDepth 100000 in
theorem c_X6_hasSpan_68 (l : Launch) (dC : Nat → ClassId) (dI : Nat → Nat → Nat) (cB cI cJ cZ cP cQ : ClassId) (ad : Nat → Nat) (sz : Nat) : Met l yX6_hasSpan wsX6_hasSpan ({ frames := 1, cells := 0, slots := 0, locals := 20 } : Room) (zPc [.ref (ad 38)] (dC, dI) (zT cB cI cJ cZ cP cQ) [(ad 38, .inr (6, xf38 ad))] sz [] []) (va_Qi (fun r _ => (fun r => r = 0) r) (zB (dC, dI) (zT cB cI cJ cZ cP cQ) (fun _ : Unit => [(ad 38, .inr (6, xf38 ad))]) [(ad 38, .inr (6, xf38 ad))] sz) (va_A [(ad 38, .inr (6, xf38 ad))] sz)) 0 0 (va_A [(ad 38, .inr (6, xf38 ad))] sz) := by
  refine z_enter (cc := cX6_hasSpan) (maxL := 1) (ret := (some .boolean)) (by decide) rfl (Nat.le_of_ble_eq_true rfl) ?_
  intro p e s m below meth c A ls Q H locs hx hb hr hml hown hts hlocks hin hK hP hD hA hX hS hAe hQ hl
  have hown : s.vm.findClass RX6 = some m.cls := hown
  have hl : lv_has ls 1 [(0, .ref (ad 38))] := hl
  refine lv_aload_n hx hb dX6_hasSpan_0 rfl (lv_at hl 0 rfl) ?_
  refine z_fini (w' := fun (u1 : Unit) => [(ad 38, .inr (6, xf38 ad))]) (va_runV (As := []) (rest := []) ⟨hx, hb, hml, hown, hts⟩ (c_X6_hasBoth_57 l dC dI cB cI cJ cZ cP cQ ad H.size) (cwV 0 hts gX6_hasSpan_X6_hasBoth rfl rfl rfl (by decide +kernel) ⟨Nat.le_of_ble_eq_true rfl, Nat.le_of_ble_eq_true rfl⟩) (z_pV (ci := 6) hK hP hD zX_nil [0] (by decide) rfl rfl 0 rfl) rfl rfl hl.1 rfl (lv_room (Nat.le_of_ble_eq_true rfl)) dX6_hasSpan_1 ⟨Nat.le_of_ble_eq_true rfl, Nat.le_of_ble_eq_true rfl⟩) hP hD hS hA [0] [] [0] rfl rfl (by decide) (by decide) (fun _ => rfl) (by decide) (fun r2 u1 H locs hp3 hP hD hS => ?_)
  have hP : va_P (dC, dI) vwCl [(ad 38, .inr (6, xf38 ad))] H := hP
  have hD : va_D A [(ad 38, .inr (6, xf38 ad))] := hD
  refine W.widen (k := 0) (n := 0) (by decide) (by decide) ?_
  obtain rfl : r2 = 0 := hp3
  refine lv_if_eq (tgt := 27) hx hb dX6_hasSpan_4 (by decide) (fun _ => ?_) (fun c => absurd (by decide) c)
  refine lv_iconst (v := 0) hx hb dX6_hasSpan_27 (by decide) ?_
  exact z_zret () hx hb hr hlocks hK hP hD hS hAe hQ rfl rfl (by decide) dX6_hasSpan_28
set_option maxHeartbeats 4000000 in
set_option maxRecDepth 100000 in
theorem c_X6_strength_68 (l : Launch) (dC : Nat → ClassId) (dI : Nat → Nat → Nat) (cB cI cJ cZ cP cQ : ClassId) (ad : Nat → Nat) (sz : Nat) : Met l yX6_strength wsX6_strength ({ frames := 2, cells := 0, slots := 0, locals := 40 } : Room) (zPc [.ref (ad 38)] (dC, dI) (zT cB cI cJ cZ cP cQ) [(ad 38, .inr (6, xf38 ad))] sz [] []) (va_Ql (fun r _ => (fun r => r = (-9000000000000000000)) r) (zB (dC, dI) (zT cB cI cJ cZ cP cQ) (fun _ : Unit => [(ad 38, .inr (6, xf38 ad))]) [(ad 38, .inr (6, xf38 ad))] sz) (va_A [(ad 38, .inr (6, xf38 ad))] sz)) 0 0 (va_A [(ad 38, .inr (6, xf38 ad))] sz) := by
  refine z_enter (cc := cX6_strength) (maxL := 5) (ret := (some .long)) (by decide) rfl (Nat.le_of_ble_eq_true rfl) ?_
  intro p e s m below meth c A ls Q H locs hx hb hr hml hown hts hlocks hin hK hP hD hA hX hS hAe hQ hl
  have hown : s.vm.findClass RX6 = some m.cls := hown
  have hk0 := hts (.constantLong RX6 64 (-9000000000000000000)) (by decide +kernel)
  have hl : lv_has ls 5 [(0, .ref (ad 38))] := hl
  refine lv_aload_n hx hb dX6_strength_0 rfl (lv_at hl 0 rfl) ?_
  refine z_fini (w' := fun (u1 : Unit) => [(ad 38, .inr (6, xf38 ad))]) (va_runV (As := []) (rest := []) ⟨hx, hb, hml, hown, hts⟩ (c_X6_hasSpan_68 l dC dI cB cI cJ cZ cP cQ ad H.size) (cwV 0 hts gX6_strength_X6_hasSpan rfl rfl rfl (by decide +kernel) ⟨Nat.le_of_ble_eq_true rfl, Nat.le_of_ble_eq_true rfl⟩) (z_pV (ci := 6) hK hP hD zX_nil [0] (by decide) rfl rfl 0 rfl) rfl rfl hl.1 rfl (lv_room (Nat.le_of_ble_eq_true rfl)) dX6_strength_1 ⟨Nat.le_of_ble_eq_true rfl, Nat.le_of_ble_eq_true rfl⟩) hP hD hS hA [0] [] [0] rfl rfl (by decide) (by decide) (fun _ => rfl) (by decide) (fun r2 u1 H locs hp3 hP hD hS => ?_)
  have hP : va_P (dC, dI) vwCl [(ad 38, .inr (6, xf38 ad))] H := hP
  have hD : va_D A [(ad 38, .inr (6, xf38 ad))] := hD
  refine W.widen (k := 0) (n := 0) (by decide) (by decide) ?_
  obtain rfl : r2 = 0 := hp3
  refine lv_if_ne (tgt := 11) hx hb dX6_strength_4 (by decide) (fun c => absurd (by decide) c) (fun _ => ?_)
  refine lv_ldc2 hx hb hown hk0 dX6_strength_7 ?_
  exact z_lret () hx hb hr hlocks hK hP hD hS hAe hQ rfl rfl dX6_strength_10
set_option maxHeartbeats 4000000 in
set_option maxRecDepth 100000 in
theorem c_X8_strong_68 (l : Launch) (dC : Nat → ClassId) (dI : Nat → Nat → Nat) (cB cI cJ cZ cP cQ : ClassId) (ad : Nat → Nat) (sz : Nat) (p1 : Int32) : Met l yX8_strong wsX8_strong ({ frames := 3, cells := 0, slots := 0, locals := 65 } : Room) (zPc [.ref (ad 0), .int p1] (dC, dI) (zT cB cI cJ cZ cP cQ) [(ad 0, .inr (8, xf0 ad)), (ad 23, .inr (5, xf23 ad)), (ad 38, .inr (6, xf38 ad))] sz [] []) (va_Ql (fun r _ => (fun r => (r = (-2000000000) ∧ p1.toInt < 1) ∨ (r = (-2000000000) ∧ 1 ≤ p1.toInt ∧ 4094 < p1.toInt) ∨ (r = (-2000000000) ∧ 1 ≤ p1.toInt ∧ p1.toInt ≤ 4094)) r) (zB (dC, dI) (zT cB cI cJ cZ cP cQ) (fun _ : Unit => []) [(ad 0, .inr (8, xf0 ad)), (ad 23, .inr (5, xf23 ad)), (ad 38, .inr (6, xf38 ad))] sz) (va_A [(ad 0, .inr (8, xf0 ad)), (ad 23, .inr (5, xf23 ad)), (ad 38, .inr (6, xf38 ad))] sz)) 0 0 (va_A [(ad 0, .inr (8, xf0 ad)), (ad 23, .inr (5, xf23 ad)), (ad 38, .inr (6, xf38 ad))] sz) := by
  refine z_enter (cc := cX8_strong) (maxL := 2) (ret := (some .long)) (by decide) rfl (Nat.le_of_ble_eq_true rfl) ?_
  intro p e s m below meth c A ls Q H locs hx hb hr hml hown hts hlocks hin hK hP hD hA hX hS hAe hQ hl
  have hown : s.vm.findClass RX8 = some m.cls := hown
  have hi8 : ∀ w ∈ wsX80, w ∈ wsX8_strong := fun w h => List.mem_cons_of_mem _ (List.mem_append_left _ (List.mem_append_left _ (List.mem_append_right _ h)))
  have hk0 := hts (.fieldLink RX8 29 "MonthPush" "all" "LMonthPush$Sheets;") (by decide +kernel)
  have hl : lv_has ls 2 [(0, .ref (ad 0)), (1, .int p1)] := hl
  refine lv_aload_n hx hb dX8_strong_0 rfl (lv_at hl 0 rfl) ?_
  refine lv_aload_n hx hb dX8_strong_1 rfl (lv_at hl 0 rfl) ?_
  refine va_get (D := (dC, dI)) (ci := 8) (v := .ref (ad 23)) (C := RX8) (T := TX8) (N := 10) hx hb hts hi8 hown hK hP 0 rfl rfl 3 (by decide) hk0 (fun _ h9 => h9) rfl dX8_strong_2 ?_
  refine lv_iload_n hx hb dX8_strong_5 rfl (lv_at hl 1 rfl) ?_
  refine z_finr (w' := fun (u1 : Unit) => [(ad 0, .inr (8, xf0 ad)), (ad 23, .inr (5, xf23 ad)), (ad 38, .inr (6, xf38 ad))]) (va_runV (As := [.ref (ad 23), .int p1]) (rest := []) ⟨hx, hb, hml, hown, hts⟩ (c_X8_divided_53 l dC dI cB cI cJ cZ cP cQ ad H.size p1) (cwV 2 hts gX8_strong_X8_divided rfl rfl rfl (by decide +kernel) ⟨Nat.le_of_ble_eq_true rfl, Nat.le_of_ble_eq_true rfl⟩) (z_pV (ci := 8) hK hP hD zX_nil [0, 1, 2] (by decide) rfl rfl 0 rfl) rfl rfl hl.1 rfl (lv_room (Nat.le_of_ble_eq_true rfl)) dX8_strong_6 ⟨Nat.le_of_ble_eq_true rfl, Nat.le_of_ble_eq_true rfl⟩) hP hD hS hA [0, 1, 2] [] [0, 1, 2] rfl rfl (by decide) (by decide) (fun _ => rfl) (by decide) (fun u1 H locs hp3 hP hD hS => ?_)
  have hP : va_P (dC, dI) vwCl [(ad 0, .inr (8, xf0 ad)), (ad 23, .inr (5, xf23 ad)), (ad 38, .inr (6, xf38 ad))] H := hP
  have hD : va_D A [(ad 0, .inr (8, xf0 ad)), (ad 23, .inr (5, xf23 ad)), (ad 38, .inr (6, xf38 ad))] := hD
  refine W.widen (k := 0) (n := 0) (by decide) (by decide) ?_
  rcases hp3 with f4 | ⟨f5, f6⟩ | ⟨f7, f8⟩
  · refine z_finl (w' := fun (u9 : Unit) => [(ad 0, .inr (8, xf0 ad)), (ad 23, .inr (5, xf23 ad)), (ad 38, .inr (6, xf38 ad))]) (va_runV (As := []) (rest := []) ⟨hx, hb, hml, hown, hts⟩ (c_X6_strength_68 l dC dI cB cI cJ cZ cP cQ ad H.size) (cwV 0 hts gX8_strong_X6_strength rfl rfl rfl (by decide +kernel) ⟨Nat.le_of_ble_eq_true rfl, Nat.le_of_ble_eq_true rfl⟩) (z_pV (ci := 6) hK hP hD zX_nil [2] (by decide) rfl rfl 2 rfl) rfl rfl hl.1 rfl (lv_room (Nat.le_of_ble_eq_true rfl)) dX8_strong_9 ⟨Nat.le_of_ble_eq_true rfl, Nat.le_of_ble_eq_true rfl⟩) hP hD hS hA [2] [0, 1] [0, 1, 2] rfl rfl (by decide) (by decide) (fun _ => rfl) (by decide) (fun r10 u9 H locs hp11 hP hD hS => ?_)
    have hP : va_P (dC, dI) vwCl [(ad 0, .inr (8, xf0 ad)), (ad 23, .inr (5, xf23 ad)), (ad 38, .inr (6, xf38 ad))] H := hP
    have hD : va_D A [(ad 0, .inr (8, xf0 ad)), (ad 23, .inr (5, xf23 ad)), (ad 38, .inr (6, xf38 ad))] := hD
    refine W.widen (k := 0) (n := 0) (by decide) (by decide) ?_
    obtain rfl : r10 = (-9000000000000000000) := hp11
    refine z_finl (w' := fun (u12 : Unit) => [(ad 0, .inr (8, xf0 ad)), (ad 23, .inr (5, xf23 ad)), (ad 38, .inr (6, xf38 ad))]) (va_runS (As := [.long (-9000000000000000000)]) (rest := []) ⟨hx, hb, hml, hown, hts⟩ (c_X8_toFace_49 l dC dI cB cI cJ cZ cP cQ H.size) (va_cwS 1 hts gX8_strong_X8_toFace rfl rfl rfl (by decide +kernel) ⟨Nat.le_of_ble_eq_true rfl, Nat.le_of_ble_eq_true rfl⟩) (z_pS hK hP hD zX_nil [] (by decide) rfl) rfl rfl hl.1 rfl (lv_room (Nat.le_of_ble_eq_true rfl)) dX8_strong_12 ⟨Nat.le_of_ble_eq_true rfl, Nat.le_of_ble_eq_true rfl⟩) hP hD hS hA [] [0, 1, 2] [0, 1, 2] rfl rfl (by decide) (by decide) (fun _ => rfl) (by decide) (fun r13 u12 H locs hp14 hP hD hS => ?_)
    have hP : va_P (dC, dI) vwCl [(ad 0, .inr (8, xf0 ad)), (ad 23, .inr (5, xf23 ad)), (ad 38, .inr (6, xf38 ad))] H := hP
    have hD : va_D A [(ad 0, .inr (8, xf0 ad)), (ad 23, .inr (5, xf23 ad)), (ad 38, .inr (6, xf38 ad))] := hD
    refine W.widen (k := 0) (n := 0) (by decide) (by decide) ?_
    obtain rfl : r13 = (-2000000000) := hp14
    have hP9 := hP.sub (ws' := []) [] rfl
    have hD9 := hD.sub (ws' := []) [] (by decide) rfl
    exact z_lret () hx hb hr hlocks hK hP9 hD9 hS hAe hQ rfl (Or.inl (⟨rfl, f4⟩)) dX8_strong_15
  · refine z_finl (w' := fun (u15 : Unit) => [(ad 0, .inr (8, xf0 ad)), (ad 23, .inr (5, xf23 ad)), (ad 38, .inr (6, xf38 ad))]) (va_runV (As := []) (rest := []) ⟨hx, hb, hml, hown, hts⟩ (c_X6_strength_68 l dC dI cB cI cJ cZ cP cQ ad H.size) (cwV 0 hts gX8_strong_X6_strength rfl rfl rfl (by decide +kernel) ⟨Nat.le_of_ble_eq_true rfl, Nat.le_of_ble_eq_true rfl⟩) (z_pV (ci := 6) hK hP hD zX_nil [2] (by decide) rfl rfl 2 rfl) rfl rfl hl.1 rfl (lv_room (Nat.le_of_ble_eq_true rfl)) dX8_strong_9 ⟨Nat.le_of_ble_eq_true rfl, Nat.le_of_ble_eq_true rfl⟩) hP hD hS hA [2] [0, 1] [0, 1, 2] rfl rfl (by decide) (by decide) (fun _ => rfl) (by decide) (fun r16 u15 H locs hp17 hP hD hS => ?_)
    have hP : va_P (dC, dI) vwCl [(ad 0, .inr (8, xf0 ad)), (ad 23, .inr (5, xf23 ad)), (ad 38, .inr (6, xf38 ad))] H := hP
    have hD : va_D A [(ad 0, .inr (8, xf0 ad)), (ad 23, .inr (5, xf23 ad)), (ad 38, .inr (6, xf38 ad))] := hD
    refine W.widen (k := 0) (n := 0) (by decide) (by decide) ?_
    obtain rfl : r16 = (-9000000000000000000) := hp17
    refine z_finl (w' := fun (u18 : Unit) => [(ad 0, .inr (8, xf0 ad)), (ad 23, .inr (5, xf23 ad)), (ad 38, .inr (6, xf38 ad))]) (va_runS (As := [.long (-9000000000000000000)]) (rest := []) ⟨hx, hb, hml, hown, hts⟩ (c_X8_toFace_49 l dC dI cB cI cJ cZ cP cQ H.size) (va_cwS 1 hts gX8_strong_X8_toFace rfl rfl rfl (by decide +kernel) ⟨Nat.le_of_ble_eq_true rfl, Nat.le_of_ble_eq_true rfl⟩) (z_pS hK hP hD zX_nil [] (by decide) rfl) rfl rfl hl.1 rfl (lv_room (Nat.le_of_ble_eq_true rfl)) dX8_strong_12 ⟨Nat.le_of_ble_eq_true rfl, Nat.le_of_ble_eq_true rfl⟩) hP hD hS hA [] [0, 1, 2] [0, 1, 2] rfl rfl (by decide) (by decide) (fun _ => rfl) (by decide) (fun r19 u18 H locs hp20 hP hD hS => ?_)
    have hP : va_P (dC, dI) vwCl [(ad 0, .inr (8, xf0 ad)), (ad 23, .inr (5, xf23 ad)), (ad 38, .inr (6, xf38 ad))] H := hP
    have hD : va_D A [(ad 0, .inr (8, xf0 ad)), (ad 23, .inr (5, xf23 ad)), (ad 38, .inr (6, xf38 ad))] := hD
    refine W.widen (k := 0) (n := 0) (by decide) (by decide) ?_
    obtain rfl : r19 = (-2000000000) := hp20
    have hP9 := hP.sub (ws' := []) [] rfl
    have hD9 := hD.sub (ws' := []) [] (by decide) rfl
    exact z_lret () hx hb hr hlocks hK hP9 hD9 hS hAe hQ rfl (Or.inr (Or.inl ⟨rfl, f5, f6⟩)) dX8_strong_15
  · refine z_finl (w' := fun (u21 : Unit) => [(ad 0, .inr (8, xf0 ad)), (ad 23, .inr (5, xf23 ad)), (ad 38, .inr (6, xf38 ad))]) (va_runV (As := []) (rest := []) ⟨hx, hb, hml, hown, hts⟩ (c_X6_strength_68 l dC dI cB cI cJ cZ cP cQ ad H.size) (cwV 0 hts gX8_strong_X6_strength rfl rfl rfl (by decide +kernel) ⟨Nat.le_of_ble_eq_true rfl, Nat.le_of_ble_eq_true rfl⟩) (z_pV (ci := 6) hK hP hD zX_nil [2] (by decide) rfl rfl 2 rfl) rfl rfl hl.1 rfl (lv_room (Nat.le_of_ble_eq_true rfl)) dX8_strong_9 ⟨Nat.le_of_ble_eq_true rfl, Nat.le_of_ble_eq_true rfl⟩) hP hD hS hA [2] [0, 1] [0, 1, 2] rfl rfl (by decide) (by decide) (fun _ => rfl) (by decide) (fun r22 u21 H locs hp23 hP hD hS => ?_)
    have hP : va_P (dC, dI) vwCl [(ad 0, .inr (8, xf0 ad)), (ad 23, .inr (5, xf23 ad)), (ad 38, .inr (6, xf38 ad))] H := hP
    have hD : va_D A [(ad 0, .inr (8, xf0 ad)), (ad 23, .inr (5, xf23 ad)), (ad 38, .inr (6, xf38 ad))] := hD
    refine W.widen (k := 0) (n := 0) (by decide) (by decide) ?_
    obtain rfl : r22 = (-9000000000000000000) := hp23
    refine z_finl (w' := fun (u24 : Unit) => [(ad 0, .inr (8, xf0 ad)), (ad 23, .inr (5, xf23 ad)), (ad 38, .inr (6, xf38 ad))]) (va_runS (As := [.long (-9000000000000000000)]) (rest := []) ⟨hx, hb, hml, hown, hts⟩ (c_X8_toFace_49 l dC dI cB cI cJ cZ cP cQ H.size) (va_cwS 1 hts gX8_strong_X8_toFace rfl rfl rfl (by decide +kernel) ⟨Nat.le_of_ble_eq_true rfl, Nat.le_of_ble_eq_true rfl⟩) (z_pS hK hP hD zX_nil [] (by decide) rfl) rfl rfl hl.1 rfl (lv_room (Nat.le_of_ble_eq_true rfl)) dX8_strong_12 ⟨Nat.le_of_ble_eq_true rfl, Nat.le_of_ble_eq_true rfl⟩) hP hD hS hA [] [0, 1, 2] [0, 1, 2] rfl rfl (by decide) (by decide) (fun _ => rfl) (by decide) (fun r25 u24 H locs hp26 hP hD hS => ?_)
    have hP : va_P (dC, dI) vwCl [(ad 0, .inr (8, xf0 ad)), (ad 23, .inr (5, xf23 ad)), (ad 38, .inr (6, xf38 ad))] H := hP
    have hD : va_D A [(ad 0, .inr (8, xf0 ad)), (ad 23, .inr (5, xf23 ad)), (ad 38, .inr (6, xf38 ad))] := hD
    refine W.widen (k := 0) (n := 0) (by decide) (by decide) ?_
    obtain rfl : r25 = (-2000000000) := hp26
    have hP9 := hP.sub (ws' := []) [] rfl
    have hD9 := hD.sub (ws' := []) [] (by decide) rfl
    exact z_lret () hx hb hr hlocks hK hP9 hD9 hS hAe hQ rfl (Or.inr (Or.inr ⟨rfl, f7, f8⟩)) dX8_strong_15
set_option maxHeartbeats 4000000 in
set_option maxRecDepth 100000 in
theorem c_X8_strongest_69 (l : Launch) (dC : Nat → ClassId) (dI : Nat → Nat → Nat) (cB cI cJ cZ cP cQ : ClassId) (ad : Nat → Nat) (sz : Nat) : Met l yX8_strongest wsX8_strongest ({ frames := 3, cells := 0, slots := 0, locals := 65 } : Room) (zPc [.ref (ad 0)] (dC, dI) (zT cB cI cJ cZ cP cQ) [(ad 0, .inr (8, xf0 ad)), (ad 23, .inr (5, xf23 ad)), (ad 38, .inr (6, xf38 ad))] sz [] []) (va_Qi (fun r _ => (fun r => r = (-1)) r) (zB (dC, dI) (zT cB cI cJ cZ cP cQ) (fun _ : Unit => []) [(ad 0, .inr (8, xf0 ad)), (ad 23, .inr (5, xf23 ad)), (ad 38, .inr (6, xf38 ad))] sz) (va_A [(ad 0, .inr (8, xf0 ad)), (ad 23, .inr (5, xf23 ad)), (ad 38, .inr (6, xf38 ad))] sz)) 0 0 (va_A [(ad 0, .inr (8, xf0 ad)), (ad 23, .inr (5, xf23 ad)), (ad 38, .inr (6, xf38 ad))] sz) := by
  refine z_enter (cc := cX8_strongest) (maxL := 7) (ret := (some .int)) (by decide) rfl (Nat.le_of_ble_eq_true rfl) ?_
  intro p e s m below meth c A ls Q H locs hx hb hr hml hown hts hlocks hin hK hP hD hA hX hS hAe hQ hl
  have hown : s.vm.findClass RX8 = some m.cls := hown
  have hi8 : ∀ w ∈ wsX80, w ∈ wsX8_strongest := fun w h => List.mem_cons_of_mem _ (List.mem_append_left _ (List.mem_append_left _ (List.mem_append_right _ h)))
  have hk0 := hts (.constantLong RX8 282 (-9000000000000000000)) (by decide +kernel)
  have hk1 := hts (.fieldLink RX8 29 "MonthPush" "all" "LMonthPush$Sheets;") (by decide +kernel)
  have hl : lv_has ls 7 [(0, .ref (ad 0))] := hl
  refine lv_iconst (v := (-1)) hx hb dX8_strongest_0 (by decide) ?_
  refine lv_istore_n (lv' := [(1, .int (-1)), (0, .ref (ad 0))]) hx hb dX8_strongest_1 rfl hl (by decide) rfl (fun ls hl => ?_)
  refine lv_ldc2 hx hb hown hk0 dX8_strongest_2 ?_
  refine lv_lstore_n (lv' := [(2, .long (-9000000000000000000)), (1, .int (-1)), (0, .ref (ad 0))]) hx hb dX8_strongest_5 rfl hl (by decide) rfl (fun ls hl => ?_)
  refine lv_iconst (v := 1) hx hb dX8_strongest_6 (by decide) ?_
  refine lv_istore (lv' := [(4, .int 1), (2, .long (-9000000000000000000)), (1, .int (-1)), (0, .ref (ad 0))]) hx hb dX8_strongest_7 hl (by decide) rfl (fun ls hl => ?_)
  have hlp1 : ∀ (n i : Nat), i + n = 13 → 1 ≤ i → ∀ (H : Heap) (locs : List Loc), va_P (dC, dI) vwCl [(ad 0, .inr (8, xf0 ad)), (ad 23, .inr (5, xf23 ad)), (ad 38, .inr (6, xf38 ad))] H → va_S A s.heap H locs → ∀ (ls : Array Slot), lv_has ls 7 [(4, .int (nI i)), (2, .long (-9000000000000000000)), (1, .int (-1)), (0, .ref (ad 0))] → W p l e ({ frames := 3, cells := 0, slots := 0, locals := 65 } : Room) s m ([.ref (ad 0)] : List Value).toArray below meth c H locs 0 0 Q (F0 m 9 ls []) := by
    intro n
    induction n with
    | zero =>
      intro i hi hi0 H locs hP hS ls hl
      obtain rfl : i = 13 := by omega
      have hl : lv_has ls 7 [(4, .int 13), (2, .long (-9000000000000000000)), (1, .int (-1)), (0, .ref (ad 0))] := hl
      refine lv_iload hx hb dX8_strongest_9 (lv_at hl 0 rfl) ?_
      refine lv_bipush (v := 12) hx hb dX8_strongest_11 (by decide) ?_
      refine lv_icmp_gt (tgt := 54) hx hb dX8_strongest_13 (by decide) (fun _ => ?_) (fun c => absurd (by decide) c)
      refine lv_iload_n hx hb dX8_strongest_54 rfl (lv_at hl 2 rfl) ?_
      have hP9 := hP.sub (ws' := []) [] rfl
      have hD9 := hD.sub (ws' := []) [] (by decide) rfl
      exact z_iret () hx hb hr hlocks hK hP9 hD9 hS hAe hQ rfl rfl dX8_strongest_55
    | succ n ih =>
      intro i hi hi0 H locs hP hS ls hl
      have hlt : i < 13 := by omega
      refine lv_iload hx hb dX8_strongest_9 (lv_at hl 0 rfl) ?_
      refine lv_bipush (v := 12) hx hb dX8_strongest_11 (by decide) ?_
      refine lv_icmp_gt (tgt := 54) hx hb dX8_strongest_13 (by decide) (fun c => absurd (show 12 < (i : Int) from z_lt (by decide) (nI_toInt (by omega)) c) (by omega)) (fun _ => ?_)
      refine lv_aload_n hx hb dX8_strongest_16 rfl (lv_at hl 3 rfl) ?_
      refine lv_aload_n hx hb dX8_strongest_17 rfl (lv_at hl 3 rfl) ?_
      refine va_get (D := (dC, dI)) (ci := 8) (v := .ref (ad 23)) (C := RX8) (T := TX8) (N := 10) hx hb hts hi8 hown hK hP 0 rfl rfl 3 (by decide) hk1 (fun _ h9 => h9) rfl dX8_strongest_18 ?_
      refine lv_iconst (v := 1) hx hb dX8_strongest_21 (by decide) ?_
      refine lv_iload hx hb dX8_strongest_22 (lv_at hl 0 rfl) ?_
      refine lv_iconst (v := 1) hx hb dX8_strongest_24 (by decide) ?_
      refine lv_isub hx hb dX8_strongest_25 ?_
      refine lv_ishl hx hb dX8_strongest_26 ?_
      refine z_finr (w' := fun (u2 : Unit) => [(ad 0, .inr (8, xf0 ad)), (ad 23, .inr (5, xf23 ad)), (ad 38, .inr (6, xf38 ad))]) (va_runV (As := [.ref (ad 23), .int (1 <<< (((nI i) - 1) &&& 31))]) (rest := []) ⟨hx, hb, hml, hown, hts⟩ (c_X8_divided_53 l dC dI cB cI cJ cZ cP cQ ad H.size (1 <<< (((nI i) - 1) &&& 31))) (cwV 2 hts gX8_strongest_X8_divided rfl rfl rfl (by decide +kernel) ⟨Nat.le_of_ble_eq_true rfl, Nat.le_of_ble_eq_true rfl⟩) (z_pV (ci := 8) hK hP hD zX_nil [0, 1, 2] (by decide) rfl rfl 0 rfl) rfl rfl hl.1 rfl (lv_room (Nat.le_of_ble_eq_true rfl)) dX8_strongest_27 ⟨Nat.le_of_ble_eq_true rfl, Nat.le_of_ble_eq_true rfl⟩) hP hD hS hA [0, 1, 2] [] [0, 1, 2] rfl rfl (by decide) (by decide) (fun _ => rfl) (by decide) (fun u2 H locs hp4 hP hD hS => ?_)
      have hP : va_P (dC, dI) vwCl [(ad 0, .inr (8, xf0 ad)), (ad 23, .inr (5, xf23 ad)), (ad 38, .inr (6, xf38 ad))] H := hP
      have hD : va_D A [(ad 0, .inr (8, xf0 ad)), (ad 23, .inr (5, xf23 ad)), (ad 38, .inr (6, xf38 ad))] := hD
      refine W.widen (k := 0) (n := 0) (by decide) (by decide) ?_
      rcases hp4 with f5 | ⟨f6, f7⟩ | ⟨f8, f9⟩
      · refine z_finl (w' := fun (u10 : Unit) => [(ad 0, .inr (8, xf0 ad)), (ad 23, .inr (5, xf23 ad)), (ad 38, .inr (6, xf38 ad))]) (va_runV (As := []) (rest := []) ⟨hx, hb, hml, hown, hts⟩ (c_X6_strength_68 l dC dI cB cI cJ cZ cP cQ ad H.size) (cwV 0 hts gX8_strongest_X6_strength rfl rfl rfl (by decide +kernel) ⟨Nat.le_of_ble_eq_true rfl, Nat.le_of_ble_eq_true rfl⟩) (z_pV (ci := 6) hK hP hD zX_nil [2] (by decide) rfl rfl 2 rfl) rfl rfl hl.1 rfl (lv_room (Nat.le_of_ble_eq_true rfl)) dX8_strongest_30 ⟨Nat.le_of_ble_eq_true rfl, Nat.le_of_ble_eq_true rfl⟩) hP hD hS hA [2] [0, 1] [0, 1, 2] rfl rfl (by decide) (by decide) (fun _ => rfl) (by decide) (fun r11 u10 H locs hp12 hP hD hS => ?_)
        have hP : va_P (dC, dI) vwCl [(ad 0, .inr (8, xf0 ad)), (ad 23, .inr (5, xf23 ad)), (ad 38, .inr (6, xf38 ad))] H := hP
        have hD : va_D A [(ad 0, .inr (8, xf0 ad)), (ad 23, .inr (5, xf23 ad)), (ad 38, .inr (6, xf38 ad))] := hD
        refine W.widen (k := 0) (n := 0) (by decide) (by decide) ?_
        obtain rfl : r11 = (-9000000000000000000) := hp12
        refine lv_lstore (lv' := [(5, .long (-9000000000000000000)), (4, .int (nI i)), (2, .long (-9000000000000000000)), (1, .int (-1)), (0, .ref (ad 0))]) hx hb dX8_strongest_33 hl (by decide) rfl (fun ls hl => ?_)
        refine lv_lload hx hb dX8_strongest_35 (lv_at hl 0 rfl) ?_
        refine lv_lload_n hx hb dX8_strongest_37 rfl (lv_at hl 2 rfl) ?_
        refine W.lcmp hx hb dX8_strongest_38 ?_
        refine z_topi (y := 0) (by decide +kernel) ?_
        refine lv_if_le (tgt := 48) hx hb dX8_strongest_39 (by decide) (fun _ => ?_) (fun c => absurd (by decide) c)
        refine lv_iinc (v := nI (i + 1)) (lv' := [(4, .int (nI (i + 1))), (5, .long (-9000000000000000000)), (2, .long (-9000000000000000000)), (1, .int (-1)), (0, .ref (ad 0))]) hx hb dX8_strongest_48 hl (k := 1) rfl (nI_1 i) (by decide) rfl (fun ls hl => ?_)
        refine lv_goto (tgt := 9) hx hb dX8_strongest_51 (by decide) ?_
        exact ih (i + 1) (by omega) (by omega) _ _ hP hS ls (lv_sub hl [0, 2, 3, 4] rfl)
      · refine z_finl (w' := fun (u13 : Unit) => [(ad 0, .inr (8, xf0 ad)), (ad 23, .inr (5, xf23 ad)), (ad 38, .inr (6, xf38 ad))]) (va_runV (As := []) (rest := []) ⟨hx, hb, hml, hown, hts⟩ (c_X6_strength_68 l dC dI cB cI cJ cZ cP cQ ad H.size) (cwV 0 hts gX8_strongest_X6_strength rfl rfl rfl (by decide +kernel) ⟨Nat.le_of_ble_eq_true rfl, Nat.le_of_ble_eq_true rfl⟩) (z_pV (ci := 6) hK hP hD zX_nil [2] (by decide) rfl rfl 2 rfl) rfl rfl hl.1 rfl (lv_room (Nat.le_of_ble_eq_true rfl)) dX8_strongest_30 ⟨Nat.le_of_ble_eq_true rfl, Nat.le_of_ble_eq_true rfl⟩) hP hD hS hA [2] [0, 1] [0, 1, 2] rfl rfl (by decide) (by decide) (fun _ => rfl) (by decide) (fun r14 u13 H locs hp15 hP hD hS => ?_)
        have hP : va_P (dC, dI) vwCl [(ad 0, .inr (8, xf0 ad)), (ad 23, .inr (5, xf23 ad)), (ad 38, .inr (6, xf38 ad))] H := hP
        have hD : va_D A [(ad 0, .inr (8, xf0 ad)), (ad 23, .inr (5, xf23 ad)), (ad 38, .inr (6, xf38 ad))] := hD
        refine W.widen (k := 0) (n := 0) (by decide) (by decide) ?_
        obtain rfl : r14 = (-9000000000000000000) := hp15
        refine lv_lstore (lv' := [(5, .long (-9000000000000000000)), (4, .int (nI i)), (2, .long (-9000000000000000000)), (1, .int (-1)), (0, .ref (ad 0))]) hx hb dX8_strongest_33 hl (by decide) rfl (fun ls hl => ?_)
        refine lv_lload hx hb dX8_strongest_35 (lv_at hl 0 rfl) ?_
        refine lv_lload_n hx hb dX8_strongest_37 rfl (lv_at hl 2 rfl) ?_
        refine W.lcmp hx hb dX8_strongest_38 ?_
        refine z_topi (y := 0) (by decide +kernel) ?_
        refine lv_if_le (tgt := 48) hx hb dX8_strongest_39 (by decide) (fun _ => ?_) (fun c => absurd (by decide) c)
        refine lv_iinc (v := nI (i + 1)) (lv' := [(4, .int (nI (i + 1))), (5, .long (-9000000000000000000)), (2, .long (-9000000000000000000)), (1, .int (-1)), (0, .ref (ad 0))]) hx hb dX8_strongest_48 hl (k := 1) rfl (nI_1 i) (by decide) rfl (fun ls hl => ?_)
        refine lv_goto (tgt := 9) hx hb dX8_strongest_51 (by decide) ?_
        exact ih (i + 1) (by omega) (by omega) _ _ hP hS ls (lv_sub hl [0, 2, 3, 4] rfl)
      · refine z_finl (w' := fun (u16 : Unit) => [(ad 0, .inr (8, xf0 ad)), (ad 23, .inr (5, xf23 ad)), (ad 38, .inr (6, xf38 ad))]) (va_runV (As := []) (rest := []) ⟨hx, hb, hml, hown, hts⟩ (c_X6_strength_68 l dC dI cB cI cJ cZ cP cQ ad H.size) (cwV 0 hts gX8_strongest_X6_strength rfl rfl rfl (by decide +kernel) ⟨Nat.le_of_ble_eq_true rfl, Nat.le_of_ble_eq_true rfl⟩) (z_pV (ci := 6) hK hP hD zX_nil [2] (by decide) rfl rfl 2 rfl) rfl rfl hl.1 rfl (lv_room (Nat.le_of_ble_eq_true rfl)) dX8_strongest_30 ⟨Nat.le_of_ble_eq_true rfl, Nat.le_of_ble_eq_true rfl⟩) hP hD hS hA [2] [0, 1] [0, 1, 2] rfl rfl (by decide) (by decide) (fun _ => rfl) (by decide) (fun r17 u16 H locs hp18 hP hD hS => ?_)
        have hP : va_P (dC, dI) vwCl [(ad 0, .inr (8, xf0 ad)), (ad 23, .inr (5, xf23 ad)), (ad 38, .inr (6, xf38 ad))] H := hP
        have hD : va_D A [(ad 0, .inr (8, xf0 ad)), (ad 23, .inr (5, xf23 ad)), (ad 38, .inr (6, xf38 ad))] := hD
        refine W.widen (k := 0) (n := 0) (by decide) (by decide) ?_
        obtain rfl : r17 = (-9000000000000000000) := hp18
        refine lv_lstore (lv' := [(5, .long (-9000000000000000000)), (4, .int (nI i)), (2, .long (-9000000000000000000)), (1, .int (-1)), (0, .ref (ad 0))]) hx hb dX8_strongest_33 hl (by decide) rfl (fun ls hl => ?_)
        refine lv_lload hx hb dX8_strongest_35 (lv_at hl 0 rfl) ?_
        refine lv_lload_n hx hb dX8_strongest_37 rfl (lv_at hl 2 rfl) ?_
        refine W.lcmp hx hb dX8_strongest_38 ?_
        refine z_topi (y := 0) (by decide +kernel) ?_
        refine lv_if_le (tgt := 48) hx hb dX8_strongest_39 (by decide) (fun _ => ?_) (fun c => absurd (by decide) c)
        refine lv_iinc (v := nI (i + 1)) (lv' := [(4, .int (nI (i + 1))), (5, .long (-9000000000000000000)), (2, .long (-9000000000000000000)), (1, .int (-1)), (0, .ref (ad 0))]) hx hb dX8_strongest_48 hl (k := 1) rfl (nI_1 i) (by decide) rfl (fun ls hl => ?_)
        refine lv_goto (tgt := 9) hx hb dX8_strongest_51 (by decide) ?_
        exact ih (i + 1) (by omega) (by omega) _ _ hP hS ls (lv_sub hl [0, 2, 3, 4] rfl)
  exact hlp1 (13 - 1) 1 rfl (by omega) _ _ hP hS ls (lv_sub hl [0, 1, 2, 3] rfl)
set_option maxHeartbeats 4000000 in
set_option maxRecDepth 100000 in
theorem c_X8_within_71 (l : Launch) (dC : Nat → ClassId) (dI : Nat → Nat → Nat) (cB cI cJ cZ cP cQ : ClassId) (sz : Nat) (p0 : Int32) : Met l yX8_within wsX8_within ({ frames := 0, cells := 0, slots := 0, locals := 0 } : Room) (zPc [.int p0, .int 1, .int 10] (dC, dI) (zT cB cI cJ cZ cP cQ) [] sz [] []) (va_Qi (fun r _ => (fun r => (r = 0 ∧ p0.toInt < 1) ∨ (r = 0 ∧ 1 ≤ p0.toInt ∧ 10 < p0.toInt) ∨ (r = 1 ∧ 1 ≤ p0.toInt ∧ p0.toInt ≤ 10)) r) (zB (dC, dI) (zT cB cI cJ cZ cP cQ) (fun _ : Unit => []) [] sz) (va_A [] sz)) 0 0 (va_A [] sz) := by
  refine z_enter (cc := cX8_within) (maxL := 3) (ret := (some .boolean)) (by decide) rfl (Nat.le_of_ble_eq_true rfl) ?_
  intro p e s m below meth c A ls Q H locs hx hb hr hml hown hts hlocks hin hK hP hD hA hX hS hAe hQ hl
  have hown : s.vm.findClass RX8 = some m.cls := hown
  have hl : lv_has ls 3 [(0, .int p0), (1, .int 1), (2, .int 10)] := hl
  refine lv_iload_n hx hb dX8_within_0 rfl (lv_at hl 0 rfl) ?_
  refine lv_iload_n hx hb dX8_within_1 rfl (lv_at hl 1 rfl) ?_
  refine lv_icmp_lt (tgt := 14) hx hb dX8_within_2 (by decide) (fun c_1 => ?_) (fun c_1 => ?_)
  · have f2 : p0.toInt < 1 := z_lt rfl (by decide) c_1
    refine lv_iconst (v := 0) hx hb dX8_within_14 (by decide) ?_
    exact z_zret () hx hb hr hlocks hK hP hD hS hAe hQ rfl (Or.inl (⟨rfl, f2⟩)) (by decide) dX8_within_15
  · have f2 : 1 ≤ p0.toInt := z_nlt rfl (by decide) c_1
    refine lv_iload_n hx hb dX8_within_5 rfl (lv_at hl 0 rfl) ?_
    refine lv_iload_n hx hb dX8_within_6 rfl (lv_at hl 2 rfl) ?_
    refine lv_icmp_gt (tgt := 14) hx hb dX8_within_7 (by decide) (fun c_3 => ?_) (fun c_3 => ?_)
    · have f4 : 10 < p0.toInt := z_lt (by decide) rfl c_3
      refine lv_iconst (v := 0) hx hb dX8_within_14 (by decide) ?_
      exact z_zret () hx hb hr hlocks hK hP hD hS hAe hQ rfl (Or.inr (Or.inl ⟨rfl, f2, f4⟩)) (by decide) dX8_within_15
    · have f4 : p0.toInt ≤ 10 := z_nlt (by decide) rfl c_3
      refine lv_iconst (v := 1) hx hb dX8_within_10 (by decide) ?_
      refine lv_goto (tgt := 15) hx hb dX8_within_11 (by decide) ?_
      exact z_zret () hx hb hr hlocks hK hP hD hS hAe hQ rfl (Or.inr (Or.inr ⟨rfl, f2, f4⟩)) (by decide) dX8_within_15
set_option maxHeartbeats 4000000 in
set_option maxRecDepth 100000 in
theorem c_X8_span_71 (l : Launch) (dC : Nat → ClassId) (dI : Nat → Nat → Nat) (cB cI cJ cZ cP cQ : ClassId) (ad : Nat → Nat) (sz : Nat) (p1 : Int32) (p2 : Int32) (p3 : Int32) : Met l yX8_span wsX8_span ({ frames := 3, cells := 0, slots := 0, locals := 65 } : Room) (zPc [.ref (ad 0), .int p1, .int p2, .int p3] (dC, dI) (zT cB cI cJ cZ cP cQ) [(ad 0, .inr (8, xf0 ad)), (ad 23, .inr (5, xf23 ad)), (ad 38, .inr (6, xf38 ad))] sz [] []) (va_Qi (fun r _ => (fun r => (r = (-2000000000) ∧ p2.toInt < 1) ∨ (r = (-2000000000) ∧ 1 ≤ p2.toInt ∧ 10 < p2.toInt) ∨ (r = (-2000000000) ∧ 1 ≤ p2.toInt ∧ p2.toInt ≤ 10 ∧ p3.toInt < 0) ∨ (r = (-2000000000) ∧ 1 ≤ p2.toInt ∧ p2.toInt ≤ 10 ∧ 0 ≤ p3.toInt ∧ 3 < p3.toInt) ∨ (r = (-2000000000) ∧ 1 ≤ p2.toInt ∧ p2.toInt ≤ 10 ∧ 0 ≤ p3.toInt ∧ p3.toInt ≤ 3 ∧ p1.toInt < 1) ∨ (r = (-2000000000) ∧ 1 ≤ p2.toInt ∧ p2.toInt ≤ 10 ∧ 0 ≤ p3.toInt ∧ p3.toInt ≤ 3 ∧ 1 ≤ p1.toInt ∧ 4094 < p1.toInt) ∨ (r = (-2000000000) ∧ 1 ≤ p2.toInt ∧ p2.toInt ≤ 10 ∧ 0 ≤ p3.toInt ∧ p3.toInt ≤ 3 ∧ 1 ≤ p1.toInt ∧ p1.toInt ≤ 4094)) r) (zB (dC, dI) (zT cB cI cJ cZ cP cQ) (fun _ : Unit => []) [(ad 0, .inr (8, xf0 ad)), (ad 23, .inr (5, xf23 ad)), (ad 38, .inr (6, xf38 ad))] sz) (va_A [(ad 0, .inr (8, xf0 ad)), (ad 23, .inr (5, xf23 ad)), (ad 38, .inr (6, xf38 ad))] sz)) 0 0 (va_A [(ad 0, .inr (8, xf0 ad)), (ad 23, .inr (5, xf23 ad)), (ad 38, .inr (6, xf38 ad))] sz) := by
  refine z_enter (cc := cX8_span) (maxL := 5) (ret := (some .int)) (by decide) rfl (Nat.le_of_ble_eq_true rfl) ?_
  intro p e s m below meth c A ls Q H locs hx hb hr hml hown hts hlocks hin hK hP hD hA hX hS hAe hQ hl
  have hown : s.vm.findClass RX8 = some m.cls := hown
  have hi8 : ∀ w ∈ wsX80, w ∈ wsX8_span := fun w h => List.mem_cons_of_mem _ (List.mem_append_left _ (List.mem_append_left _ (List.mem_append_right _ h)))
  have hk0 := hts (.constant RX8 214 (-2000000000)) (by decide +kernel)
  have hk1 := hts (.fieldLink RX8 29 "MonthPush" "all" "LMonthPush$Sheets;") (by decide +kernel)
  have hl : lv_has ls 5 [(0, .ref (ad 0)), (1, .int p1), (2, .int p2), (3, .int p3)] := hl
  refine lv_iload_n hx hb dX8_span_0 rfl (lv_at hl 2 rfl) ?_
  refine lv_iconst (v := 1) hx hb dX8_span_1 (by decide) ?_
  refine lv_bipush (v := 10) hx hb dX8_span_2 (by decide) ?_
  refine z_fini (w' := fun (u1 : Unit) => [(ad 0, .inr (8, xf0 ad)), (ad 23, .inr (5, xf23 ad)), (ad 38, .inr (6, xf38 ad))]) (va_runS (As := [.int p2, .int 1, .int 10]) (rest := []) ⟨hx, hb, hml, hown, hts⟩ (c_X8_within_71 l dC dI cB cI cJ cZ cP cQ H.size p2) (va_cwS 3 hts gX8_span_X8_within rfl rfl rfl (by decide +kernel) ⟨Nat.le_of_ble_eq_true rfl, Nat.le_of_ble_eq_true rfl⟩) (z_pS hK hP hD zX_nil [] (by decide) rfl) rfl rfl hl.1 rfl (lv_room (Nat.le_of_ble_eq_true rfl)) dX8_span_4 ⟨Nat.le_of_ble_eq_true rfl, Nat.le_of_ble_eq_true rfl⟩) hP hD hS hA [] [0, 1, 2] [0, 1, 2] rfl rfl (by decide) (by decide) (fun _ => rfl) (by decide) (fun r2 u1 H locs hp3 hP hD hS => ?_)
  have hP : va_P (dC, dI) vwCl [(ad 0, .inr (8, xf0 ad)), (ad 23, .inr (5, xf23 ad)), (ad 38, .inr (6, xf38 ad))] H := hP
  have hD : va_D A [(ad 0, .inr (8, xf0 ad)), (ad 23, .inr (5, xf23 ad)), (ad 38, .inr (6, xf38 ad))] := hD
  refine W.widen (k := 0) (n := 0) (by decide) (by decide) ?_
  rcases hp3 with ⟨rfl, f4⟩ | ⟨rfl, f5, f6⟩ | ⟨rfl, f7, f8⟩
  · refine lv_if_eq (tgt := 19) hx hb dX8_span_7 (by decide) (fun _ => ?_) (fun c => absurd (by decide) c)
    refine lv_ldc hx hb hown hk0 dX8_span_19 ?_
    have hP9 := hP.sub (ws' := []) [] rfl
    have hD9 := hD.sub (ws' := []) [] (by decide) rfl
    exact z_iret () hx hb hr hlocks hK hP9 hD9 hS hAe hQ rfl (Or.inl (⟨rfl, f4⟩)) dX8_span_21
  · refine lv_if_eq (tgt := 19) hx hb dX8_span_7 (by decide) (fun _ => ?_) (fun c => absurd (by decide) c)
    refine lv_ldc hx hb hown hk0 dX8_span_19 ?_
    have hP9 := hP.sub (ws' := []) [] rfl
    have hD9 := hD.sub (ws' := []) [] (by decide) rfl
    exact z_iret () hx hb hr hlocks hK hP9 hD9 hS hAe hQ rfl (Or.inr (Or.inl ⟨rfl, f5, f6⟩)) dX8_span_21
  · refine lv_if_eq (tgt := 19) hx hb dX8_span_7 (by decide) (fun c => absurd c (by decide)) (fun _ => ?_)
    refine lv_iload_n hx hb dX8_span_10 rfl (lv_at hl 3 rfl) ?_
    refine lv_iconst (v := 0) hx hb dX8_span_11 (by decide) ?_
    refine lv_iconst (v := 3) hx hb dX8_span_12 (by decide) ?_
    refine z_fini (w' := fun (u9 : Unit) => [(ad 0, .inr (8, xf0 ad)), (ad 23, .inr (5, xf23 ad)), (ad 38, .inr (6, xf38 ad))]) (va_runS (As := [.int p3, .int 0, .int 3]) (rest := []) ⟨hx, hb, hml, hown, hts⟩ (c_X8_within_44 l dC dI cB cI cJ cZ cP cQ H.size p3) (va_cwS 3 hts gX8_span_X8_within rfl rfl rfl (by decide +kernel) ⟨Nat.le_of_ble_eq_true rfl, Nat.le_of_ble_eq_true rfl⟩) (z_pS hK hP hD zX_nil [] (by decide) rfl) rfl rfl hl.1 rfl (lv_room (Nat.le_of_ble_eq_true rfl)) dX8_span_13 ⟨Nat.le_of_ble_eq_true rfl, Nat.le_of_ble_eq_true rfl⟩) hP hD hS hA [] [0, 1, 2] [0, 1, 2] rfl rfl (by decide) (by decide) (fun _ => rfl) (by decide) (fun r10 u9 H locs hp11 hP hD hS => ?_)
    have hP : va_P (dC, dI) vwCl [(ad 0, .inr (8, xf0 ad)), (ad 23, .inr (5, xf23 ad)), (ad 38, .inr (6, xf38 ad))] H := hP
    have hD : va_D A [(ad 0, .inr (8, xf0 ad)), (ad 23, .inr (5, xf23 ad)), (ad 38, .inr (6, xf38 ad))] := hD
    refine W.widen (k := 0) (n := 0) (by decide) (by decide) ?_
    rcases hp11 with ⟨rfl, f12⟩ | ⟨rfl, f13, f14⟩ | ⟨rfl, f15, f16⟩
    · refine lv_if_ne (tgt := 22) hx hb dX8_span_16 (by decide) (fun c => absurd (by decide) c) (fun _ => ?_)
      refine lv_ldc hx hb hown hk0 dX8_span_19 ?_
      have hP9 := hP.sub (ws' := []) [] rfl
      have hD9 := hD.sub (ws' := []) [] (by decide) rfl
      exact z_iret () hx hb hr hlocks hK hP9 hD9 hS hAe hQ rfl (Or.inr (Or.inr (Or.inl ⟨rfl, f7, f8, f12⟩))) dX8_span_21
    · refine lv_if_ne (tgt := 22) hx hb dX8_span_16 (by decide) (fun c => absurd (by decide) c) (fun _ => ?_)
      refine lv_ldc hx hb hown hk0 dX8_span_19 ?_
      have hP9 := hP.sub (ws' := []) [] rfl
      have hD9 := hD.sub (ws' := []) [] (by decide) rfl
      exact z_iret () hx hb hr hlocks hK hP9 hD9 hS hAe hQ rfl (Or.inr (Or.inr (Or.inr (Or.inl ⟨rfl, f7, f8, f13, f14⟩)))) dX8_span_21
    · refine lv_if_ne (tgt := 22) hx hb dX8_span_16 (by decide) (fun _ => ?_) (fun c => absurd c (by decide))
      refine lv_aload_n hx hb dX8_span_22 rfl (lv_at hl 0 rfl) ?_
      refine lv_aload_n hx hb dX8_span_23 rfl (lv_at hl 0 rfl) ?_
      refine va_get (D := (dC, dI)) (ci := 8) (v := .ref (ad 23)) (C := RX8) (T := TX8) (N := 10) hx hb hts hi8 hown hK hP 0 rfl rfl 3 (by decide) hk1 (fun _ h9 => h9) rfl dX8_span_24 ?_
      refine lv_iload_n hx hb dX8_span_27 rfl (lv_at hl 1 rfl) ?_
      refine z_finr (w' := fun (u17 : Unit) => [(ad 0, .inr (8, xf0 ad)), (ad 23, .inr (5, xf23 ad)), (ad 38, .inr (6, xf38 ad))]) (va_runV (As := [.ref (ad 23), .int p1]) (rest := []) ⟨hx, hb, hml, hown, hts⟩ (c_X8_divided_53 l dC dI cB cI cJ cZ cP cQ ad H.size p1) (cwV 2 hts gX8_span_X8_divided rfl rfl rfl (by decide +kernel) ⟨Nat.le_of_ble_eq_true rfl, Nat.le_of_ble_eq_true rfl⟩) (z_pV (ci := 8) hK hP hD zX_nil [0, 1, 2] (by decide) rfl rfl 0 rfl) rfl rfl hl.1 rfl (lv_room (Nat.le_of_ble_eq_true rfl)) dX8_span_28 ⟨Nat.le_of_ble_eq_true rfl, Nat.le_of_ble_eq_true rfl⟩) hP hD hS hA [0, 1, 2] [] [0, 1, 2] rfl rfl (by decide) (by decide) (fun _ => rfl) (by decide) (fun u17 H locs hp19 hP hD hS => ?_)
      have hP : va_P (dC, dI) vwCl [(ad 0, .inr (8, xf0 ad)), (ad 23, .inr (5, xf23 ad)), (ad 38, .inr (6, xf38 ad))] H := hP
      have hD : va_D A [(ad 0, .inr (8, xf0 ad)), (ad 23, .inr (5, xf23 ad)), (ad 38, .inr (6, xf38 ad))] := hD
      refine W.widen (k := 0) (n := 0) (by decide) (by decide) ?_
      rcases hp19 with f20 | ⟨f21, f22⟩ | ⟨f23, f24⟩
      · refine lv_astore (lv' := [(4, .ref (ad 38)), (0, .ref (ad 0)), (1, .int p1), (2, .int p2), (3, .int p3)]) hx hb dX8_span_31 hl (by decide) rfl (fun ls hl => ?_)
        refine lv_aload hx hb dX8_span_33 (lv_at hl 0 rfl) ?_
        refine z_fini (w' := fun (u25 : Unit) => [(ad 0, .inr (8, xf0 ad)), (ad 23, .inr (5, xf23 ad)), (ad 38, .inr (6, xf38 ad))]) (va_runV (As := []) (rest := []) ⟨hx, hb, hml, hown, hts⟩ (c_X6_hasSpan_68 l dC dI cB cI cJ cZ cP cQ ad H.size) (cwV 0 hts gX8_span_X6_hasSpan rfl rfl rfl (by decide +kernel) ⟨Nat.le_of_ble_eq_true rfl, Nat.le_of_ble_eq_true rfl⟩) (z_pV (ci := 6) hK hP hD zX_nil [2] (by decide) rfl rfl 2 rfl) rfl rfl hl.1 rfl (lv_room (Nat.le_of_ble_eq_true rfl)) dX8_span_35 ⟨Nat.le_of_ble_eq_true rfl, Nat.le_of_ble_eq_true rfl⟩) hP hD hS hA [2] [0, 1] [0, 1, 2] rfl rfl (by decide) (by decide) (fun _ => rfl) (by decide) (fun r26 u25 H locs hp27 hP hD hS => ?_)
        have hP : va_P (dC, dI) vwCl [(ad 0, .inr (8, xf0 ad)), (ad 23, .inr (5, xf23 ad)), (ad 38, .inr (6, xf38 ad))] H := hP
        have hD : va_D A [(ad 0, .inr (8, xf0 ad)), (ad 23, .inr (5, xf23 ad)), (ad 38, .inr (6, xf38 ad))] := hD
        refine W.widen (k := 0) (n := 0) (by decide) (by decide) ?_
        obtain rfl : r26 = 0 := hp27
        refine lv_if_eq (tgt := 51) hx hb dX8_span_38 (by decide) (fun _ => ?_) (fun c => absurd (by decide) c)
        refine lv_ldc hx hb hown hk0 dX8_span_51 ?_
        have hP9 := hP.sub (ws' := []) [] rfl
        have hD9 := hD.sub (ws' := []) [] (by decide) rfl
        exact z_iret () hx hb hr hlocks hK hP9 hD9 hS hAe hQ rfl (Or.inr (Or.inr (Or.inr (Or.inr (Or.inl ⟨rfl, f7, f8, f15, f16, f20⟩))))) dX8_span_53
      · refine lv_astore (lv' := [(4, .ref (ad 38)), (0, .ref (ad 0)), (1, .int p1), (2, .int p2), (3, .int p3)]) hx hb dX8_span_31 hl (by decide) rfl (fun ls hl => ?_)
        refine lv_aload hx hb dX8_span_33 (lv_at hl 0 rfl) ?_
        refine z_fini (w' := fun (u28 : Unit) => [(ad 0, .inr (8, xf0 ad)), (ad 23, .inr (5, xf23 ad)), (ad 38, .inr (6, xf38 ad))]) (va_runV (As := []) (rest := []) ⟨hx, hb, hml, hown, hts⟩ (c_X6_hasSpan_68 l dC dI cB cI cJ cZ cP cQ ad H.size) (cwV 0 hts gX8_span_X6_hasSpan rfl rfl rfl (by decide +kernel) ⟨Nat.le_of_ble_eq_true rfl, Nat.le_of_ble_eq_true rfl⟩) (z_pV (ci := 6) hK hP hD zX_nil [2] (by decide) rfl rfl 2 rfl) rfl rfl hl.1 rfl (lv_room (Nat.le_of_ble_eq_true rfl)) dX8_span_35 ⟨Nat.le_of_ble_eq_true rfl, Nat.le_of_ble_eq_true rfl⟩) hP hD hS hA [2] [0, 1] [0, 1, 2] rfl rfl (by decide) (by decide) (fun _ => rfl) (by decide) (fun r29 u28 H locs hp30 hP hD hS => ?_)
        have hP : va_P (dC, dI) vwCl [(ad 0, .inr (8, xf0 ad)), (ad 23, .inr (5, xf23 ad)), (ad 38, .inr (6, xf38 ad))] H := hP
        have hD : va_D A [(ad 0, .inr (8, xf0 ad)), (ad 23, .inr (5, xf23 ad)), (ad 38, .inr (6, xf38 ad))] := hD
        refine W.widen (k := 0) (n := 0) (by decide) (by decide) ?_
        obtain rfl : r29 = 0 := hp30
        refine lv_if_eq (tgt := 51) hx hb dX8_span_38 (by decide) (fun _ => ?_) (fun c => absurd (by decide) c)
        refine lv_ldc hx hb hown hk0 dX8_span_51 ?_
        have hP9 := hP.sub (ws' := []) [] rfl
        have hD9 := hD.sub (ws' := []) [] (by decide) rfl
        exact z_iret () hx hb hr hlocks hK hP9 hD9 hS hAe hQ rfl (Or.inr (Or.inr (Or.inr (Or.inr (Or.inr (Or.inl ⟨rfl, f7, f8, f15, f16, f21, f22⟩)))))) dX8_span_53
      · refine lv_astore (lv' := [(4, .ref (ad 38)), (0, .ref (ad 0)), (1, .int p1), (2, .int p2), (3, .int p3)]) hx hb dX8_span_31 hl (by decide) rfl (fun ls hl => ?_)
        refine lv_aload hx hb dX8_span_33 (lv_at hl 0 rfl) ?_
        refine z_fini (w' := fun (u31 : Unit) => [(ad 0, .inr (8, xf0 ad)), (ad 23, .inr (5, xf23 ad)), (ad 38, .inr (6, xf38 ad))]) (va_runV (As := []) (rest := []) ⟨hx, hb, hml, hown, hts⟩ (c_X6_hasSpan_68 l dC dI cB cI cJ cZ cP cQ ad H.size) (cwV 0 hts gX8_span_X6_hasSpan rfl rfl rfl (by decide +kernel) ⟨Nat.le_of_ble_eq_true rfl, Nat.le_of_ble_eq_true rfl⟩) (z_pV (ci := 6) hK hP hD zX_nil [2] (by decide) rfl rfl 2 rfl) rfl rfl hl.1 rfl (lv_room (Nat.le_of_ble_eq_true rfl)) dX8_span_35 ⟨Nat.le_of_ble_eq_true rfl, Nat.le_of_ble_eq_true rfl⟩) hP hD hS hA [2] [0, 1] [0, 1, 2] rfl rfl (by decide) (by decide) (fun _ => rfl) (by decide) (fun r32 u31 H locs hp33 hP hD hS => ?_)
        have hP : va_P (dC, dI) vwCl [(ad 0, .inr (8, xf0 ad)), (ad 23, .inr (5, xf23 ad)), (ad 38, .inr (6, xf38 ad))] H := hP
        have hD : va_D A [(ad 0, .inr (8, xf0 ad)), (ad 23, .inr (5, xf23 ad)), (ad 38, .inr (6, xf38 ad))] := hD
        refine W.widen (k := 0) (n := 0) (by decide) (by decide) ?_
        obtain rfl : r32 = 0 := hp33
        refine lv_if_eq (tgt := 51) hx hb dX8_span_38 (by decide) (fun _ => ?_) (fun c => absurd (by decide) c)
        refine lv_ldc hx hb hown hk0 dX8_span_51 ?_
        have hP9 := hP.sub (ws' := []) [] rfl
        have hD9 := hD.sub (ws' := []) [] (by decide) rfl
        exact z_iret () hx hb hr hlocks hK hP9 hD9 hS hAe hQ rfl (Or.inr (Or.inr (Or.inr (Or.inr (Or.inr (Or.inr ⟨rfl, f7, f8, f15, f16, f23, f24⟩)))))) dX8_span_53
set_option maxHeartbeats 4000000 in
set_option maxRecDepth 100000 in
theorem c_X6_hasUsualSpan_73 (l : Launch) (dC : Nat → ClassId) (dI : Nat → Nat → Nat) (cB cI cJ cZ cP cQ : ClassId) (ad : Nat → Nat) (sz : Nat) : Met l yX6_hasUsualSpan wsX6_hasUsualSpan ({ frames := 3, cells := 0, slots := 0, locals := 68 } : Room) (zPc [.ref (ad 38)] (dC, dI) (zT cB cI cJ cZ cP cQ) [(ad 38, .inr (6, xf38 ad))] sz [] []) (va_Qi (fun r _ => (fun r => r = 0) r) (zB (dC, dI) (zT cB cI cJ cZ cP cQ) (fun _ : Unit => [(ad 38, .inr (6, xf38 ad))]) [(ad 38, .inr (6, xf38 ad))] sz) (va_A [(ad 38, .inr (6, xf38 ad))] sz)) 0 0 (va_A [(ad 38, .inr (6, xf38 ad))] sz) := by
  refine z_enter (cc := cX6_hasUsualSpan) (maxL := 3) (ret := (some .boolean)) (by decide) rfl (Nat.le_of_ble_eq_true rfl) ?_
  intro p e s m below meth c A ls Q H locs hx hb hr hml hown hts hlocks hin hK hP hD hA hX hS hAe hQ hl
  have hown : s.vm.findClass RX6 = some m.cls := hown
  have hk0 := hts (.constantLong RX6 64 (-9000000000000000000)) (by decide +kernel)
  have hl : lv_has ls 3 [(0, .ref (ad 38))] := hl
  refine lv_aload_n hx hb dX6_hasUsualSpan_0 rfl (lv_at hl 0 rfl) ?_
  refine z_finl (w' := fun (u1 : Unit) => [(ad 38, .inr (6, xf38 ad))]) (va_runV (As := []) (rest := []) ⟨hx, hb, hml, hown, hts⟩ (c_X6_byMoved_57 l dC dI cB cI cJ cZ cP cQ ad H.size) (cwV 0 hts gX6_hasUsualSpan_X6_byMoved rfl rfl rfl (by decide +kernel) ⟨Nat.le_of_ble_eq_true rfl, Nat.le_of_ble_eq_true rfl⟩) (z_pV (ci := 6) hK hP hD zX_nil [0] (by decide) rfl rfl 0 rfl) rfl rfl hl.1 rfl (lv_room (Nat.le_of_ble_eq_true rfl)) dX6_hasUsualSpan_1 ⟨Nat.le_of_ble_eq_true rfl, Nat.le_of_ble_eq_true rfl⟩) hP hD hS hA [0] [] [0] rfl rfl (by decide) (by decide) (fun _ => rfl) (by decide) (fun r2 u1 H locs hp3 hP hD hS => ?_)
  have hP : va_P (dC, dI) vwCl [(ad 38, .inr (6, xf38 ad))] H := hP
  have hD : va_D A [(ad 38, .inr (6, xf38 ad))] := hD
  refine W.widen (k := 0) (n := 0) (by decide) (by decide) ?_
  obtain rfl : r2 = (-9000000000000000000) := hp3
  refine lv_lstore_n (lv' := [(1, .long (-9000000000000000000)), (0, .ref (ad 38))]) hx hb dX6_hasUsualSpan_4 rfl hl (by decide) rfl (fun ls hl => ?_)
  refine lv_lload_n hx hb dX6_hasUsualSpan_5 rfl (lv_at hl 0 rfl) ?_
  refine lv_ldc2 hx hb hown hk0 dX6_hasUsualSpan_6 ?_
  refine W.lcmp hx hb dX6_hasUsualSpan_9 ?_
  refine z_topi (y := 0) (by decide +kernel) ?_
  refine lv_if_eq (tgt := 20) hx hb dX6_hasUsualSpan_10 (by decide) (fun _ => ?_) (fun c => absurd (by decide) c)
  refine lv_iconst (v := 0) hx hb dX6_hasUsualSpan_20 (by decide) ?_
  exact z_zret () hx hb hr hlocks hK hP hD hS hAe hQ rfl rfl (by decide) dX6_hasUsualSpan_21
set_option maxHeartbeats 4000000 in
set_option maxRecDepth 100000 in
theorem c_X8_usual_73 (l : Launch) (dC : Nat → ClassId) (dI : Nat → Nat → Nat) (cB cI cJ cZ cP cQ : ClassId) (ad : Nat → Nat) (sz : Nat) (p1 : Int32) (p2 : Int32) (p3 : Int32) : Met l yX8_usual wsX8_usual ({ frames := 4, cells := 0, slots := 0, locals := 90 } : Room) (zPc [.ref (ad 0), .int p1, .int p2, .int p3] (dC, dI) (zT cB cI cJ cZ cP cQ) [(ad 0, .inr (8, xf0 ad)), (ad 23, .inr (5, xf23 ad)), (ad 38, .inr (6, xf38 ad))] sz [] []) (va_Qi (fun r _ => (fun r => (r = (-2000000000) ∧ p2.toInt < 1) ∨ (r = (-2000000000) ∧ 1 ≤ p2.toInt ∧ 10 < p2.toInt) ∨ (r = (-2000000000) ∧ 1 ≤ p2.toInt ∧ p2.toInt ≤ 10 ∧ p3.toInt < 0) ∨ (r = (-2000000000) ∧ 1 ≤ p2.toInt ∧ p2.toInt ≤ 10 ∧ 0 ≤ p3.toInt ∧ 3 < p3.toInt) ∨ (r = (-2000000000) ∧ 1 ≤ p2.toInt ∧ p2.toInt ≤ 10 ∧ 0 ≤ p3.toInt ∧ p3.toInt ≤ 3 ∧ p1.toInt < 1) ∨ (r = (-2000000000) ∧ 1 ≤ p2.toInt ∧ p2.toInt ≤ 10 ∧ 0 ≤ p3.toInt ∧ p3.toInt ≤ 3 ∧ 1 ≤ p1.toInt ∧ 4094 < p1.toInt) ∨ (r = (-2000000000) ∧ 1 ≤ p2.toInt ∧ p2.toInt ≤ 10 ∧ 0 ≤ p3.toInt ∧ p3.toInt ≤ 3 ∧ 1 ≤ p1.toInt ∧ p1.toInt ≤ 4094)) r) (zB (dC, dI) (zT cB cI cJ cZ cP cQ) (fun _ : Unit => []) [(ad 0, .inr (8, xf0 ad)), (ad 23, .inr (5, xf23 ad)), (ad 38, .inr (6, xf38 ad))] sz) (va_A [(ad 0, .inr (8, xf0 ad)), (ad 23, .inr (5, xf23 ad)), (ad 38, .inr (6, xf38 ad))] sz)) 0 0 (va_A [(ad 0, .inr (8, xf0 ad)), (ad 23, .inr (5, xf23 ad)), (ad 38, .inr (6, xf38 ad))] sz) := by
  refine z_enter (cc := cX8_usual) (maxL := 5) (ret := (some .int)) (by decide) rfl (Nat.le_of_ble_eq_true rfl) ?_
  intro p e s m below meth c A ls Q H locs hx hb hr hml hown hts hlocks hin hK hP hD hA hX hS hAe hQ hl
  have hown : s.vm.findClass RX8 = some m.cls := hown
  have hi8 : ∀ w ∈ wsX80, w ∈ wsX8_usual := fun w h => List.mem_cons_of_mem _ (List.mem_append_left _ (List.mem_append_left _ (List.mem_append_right _ h)))
  have hk0 := hts (.constant RX8 214 (-2000000000)) (by decide +kernel)
  have hk1 := hts (.fieldLink RX8 29 "MonthPush" "all" "LMonthPush$Sheets;") (by decide +kernel)
  have hl : lv_has ls 5 [(0, .ref (ad 0)), (1, .int p1), (2, .int p2), (3, .int p3)] := hl
  refine lv_iload_n hx hb dX8_usual_0 rfl (lv_at hl 2 rfl) ?_
  refine lv_iconst (v := 1) hx hb dX8_usual_1 (by decide) ?_
  refine lv_bipush (v := 10) hx hb dX8_usual_2 (by decide) ?_
  refine z_fini (w' := fun (u1 : Unit) => [(ad 0, .inr (8, xf0 ad)), (ad 23, .inr (5, xf23 ad)), (ad 38, .inr (6, xf38 ad))]) (va_runS (As := [.int p2, .int 1, .int 10]) (rest := []) ⟨hx, hb, hml, hown, hts⟩ (c_X8_within_71 l dC dI cB cI cJ cZ cP cQ H.size p2) (va_cwS 3 hts gX8_usual_X8_within rfl rfl rfl (by decide +kernel) ⟨Nat.le_of_ble_eq_true rfl, Nat.le_of_ble_eq_true rfl⟩) (z_pS hK hP hD zX_nil [] (by decide) rfl) rfl rfl hl.1 rfl (lv_room (Nat.le_of_ble_eq_true rfl)) dX8_usual_4 ⟨Nat.le_of_ble_eq_true rfl, Nat.le_of_ble_eq_true rfl⟩) hP hD hS hA [] [0, 1, 2] [0, 1, 2] rfl rfl (by decide) (by decide) (fun _ => rfl) (by decide) (fun r2 u1 H locs hp3 hP hD hS => ?_)
  have hP : va_P (dC, dI) vwCl [(ad 0, .inr (8, xf0 ad)), (ad 23, .inr (5, xf23 ad)), (ad 38, .inr (6, xf38 ad))] H := hP
  have hD : va_D A [(ad 0, .inr (8, xf0 ad)), (ad 23, .inr (5, xf23 ad)), (ad 38, .inr (6, xf38 ad))] := hD
  refine W.widen (k := 0) (n := 0) (by decide) (by decide) ?_
  rcases hp3 with ⟨rfl, f4⟩ | ⟨rfl, f5, f6⟩ | ⟨rfl, f7, f8⟩
  · refine lv_if_eq (tgt := 19) hx hb dX8_usual_7 (by decide) (fun _ => ?_) (fun c => absurd (by decide) c)
    refine lv_ldc hx hb hown hk0 dX8_usual_19 ?_
    have hP9 := hP.sub (ws' := []) [] rfl
    have hD9 := hD.sub (ws' := []) [] (by decide) rfl
    exact z_iret () hx hb hr hlocks hK hP9 hD9 hS hAe hQ rfl (Or.inl (⟨rfl, f4⟩)) dX8_usual_21
  · refine lv_if_eq (tgt := 19) hx hb dX8_usual_7 (by decide) (fun _ => ?_) (fun c => absurd (by decide) c)
    refine lv_ldc hx hb hown hk0 dX8_usual_19 ?_
    have hP9 := hP.sub (ws' := []) [] rfl
    have hD9 := hD.sub (ws' := []) [] (by decide) rfl
    exact z_iret () hx hb hr hlocks hK hP9 hD9 hS hAe hQ rfl (Or.inr (Or.inl ⟨rfl, f5, f6⟩)) dX8_usual_21
  · refine lv_if_eq (tgt := 19) hx hb dX8_usual_7 (by decide) (fun c => absurd c (by decide)) (fun _ => ?_)
    refine lv_iload_n hx hb dX8_usual_10 rfl (lv_at hl 3 rfl) ?_
    refine lv_iconst (v := 0) hx hb dX8_usual_11 (by decide) ?_
    refine lv_iconst (v := 3) hx hb dX8_usual_12 (by decide) ?_
    refine z_fini (w' := fun (u9 : Unit) => [(ad 0, .inr (8, xf0 ad)), (ad 23, .inr (5, xf23 ad)), (ad 38, .inr (6, xf38 ad))]) (va_runS (As := [.int p3, .int 0, .int 3]) (rest := []) ⟨hx, hb, hml, hown, hts⟩ (c_X8_within_44 l dC dI cB cI cJ cZ cP cQ H.size p3) (va_cwS 3 hts gX8_usual_X8_within rfl rfl rfl (by decide +kernel) ⟨Nat.le_of_ble_eq_true rfl, Nat.le_of_ble_eq_true rfl⟩) (z_pS hK hP hD zX_nil [] (by decide) rfl) rfl rfl hl.1 rfl (lv_room (Nat.le_of_ble_eq_true rfl)) dX8_usual_13 ⟨Nat.le_of_ble_eq_true rfl, Nat.le_of_ble_eq_true rfl⟩) hP hD hS hA [] [0, 1, 2] [0, 1, 2] rfl rfl (by decide) (by decide) (fun _ => rfl) (by decide) (fun r10 u9 H locs hp11 hP hD hS => ?_)
    have hP : va_P (dC, dI) vwCl [(ad 0, .inr (8, xf0 ad)), (ad 23, .inr (5, xf23 ad)), (ad 38, .inr (6, xf38 ad))] H := hP
    have hD : va_D A [(ad 0, .inr (8, xf0 ad)), (ad 23, .inr (5, xf23 ad)), (ad 38, .inr (6, xf38 ad))] := hD
    refine W.widen (k := 0) (n := 0) (by decide) (by decide) ?_
    rcases hp11 with ⟨rfl, f12⟩ | ⟨rfl, f13, f14⟩ | ⟨rfl, f15, f16⟩
    · refine lv_if_ne (tgt := 22) hx hb dX8_usual_16 (by decide) (fun c => absurd (by decide) c) (fun _ => ?_)
      refine lv_ldc hx hb hown hk0 dX8_usual_19 ?_
      have hP9 := hP.sub (ws' := []) [] rfl
      have hD9 := hD.sub (ws' := []) [] (by decide) rfl
      exact z_iret () hx hb hr hlocks hK hP9 hD9 hS hAe hQ rfl (Or.inr (Or.inr (Or.inl ⟨rfl, f7, f8, f12⟩))) dX8_usual_21
    · refine lv_if_ne (tgt := 22) hx hb dX8_usual_16 (by decide) (fun c => absurd (by decide) c) (fun _ => ?_)
      refine lv_ldc hx hb hown hk0 dX8_usual_19 ?_
      have hP9 := hP.sub (ws' := []) [] rfl
      have hD9 := hD.sub (ws' := []) [] (by decide) rfl
      exact z_iret () hx hb hr hlocks hK hP9 hD9 hS hAe hQ rfl (Or.inr (Or.inr (Or.inr (Or.inl ⟨rfl, f7, f8, f13, f14⟩)))) dX8_usual_21
    · refine lv_if_ne (tgt := 22) hx hb dX8_usual_16 (by decide) (fun _ => ?_) (fun c => absurd c (by decide))
      refine lv_aload_n hx hb dX8_usual_22 rfl (lv_at hl 0 rfl) ?_
      refine lv_aload_n hx hb dX8_usual_23 rfl (lv_at hl 0 rfl) ?_
      refine va_get (D := (dC, dI)) (ci := 8) (v := .ref (ad 23)) (C := RX8) (T := TX8) (N := 10) hx hb hts hi8 hown hK hP 0 rfl rfl 3 (by decide) hk1 (fun _ h9 => h9) rfl dX8_usual_24 ?_
      refine lv_iload_n hx hb dX8_usual_27 rfl (lv_at hl 1 rfl) ?_
      refine z_finr (w' := fun (u17 : Unit) => [(ad 0, .inr (8, xf0 ad)), (ad 23, .inr (5, xf23 ad)), (ad 38, .inr (6, xf38 ad))]) (va_runV (As := [.ref (ad 23), .int p1]) (rest := []) ⟨hx, hb, hml, hown, hts⟩ (c_X8_divided_53 l dC dI cB cI cJ cZ cP cQ ad H.size p1) (cwV 2 hts gX8_usual_X8_divided rfl rfl rfl (by decide +kernel) ⟨Nat.le_of_ble_eq_true rfl, Nat.le_of_ble_eq_true rfl⟩) (z_pV (ci := 8) hK hP hD zX_nil [0, 1, 2] (by decide) rfl rfl 0 rfl) rfl rfl hl.1 rfl (lv_room (Nat.le_of_ble_eq_true rfl)) dX8_usual_28 ⟨Nat.le_of_ble_eq_true rfl, Nat.le_of_ble_eq_true rfl⟩) hP hD hS hA [0, 1, 2] [] [0, 1, 2] rfl rfl (by decide) (by decide) (fun _ => rfl) (by decide) (fun u17 H locs hp19 hP hD hS => ?_)
      have hP : va_P (dC, dI) vwCl [(ad 0, .inr (8, xf0 ad)), (ad 23, .inr (5, xf23 ad)), (ad 38, .inr (6, xf38 ad))] H := hP
      have hD : va_D A [(ad 0, .inr (8, xf0 ad)), (ad 23, .inr (5, xf23 ad)), (ad 38, .inr (6, xf38 ad))] := hD
      refine W.widen (k := 0) (n := 0) (by decide) (by decide) ?_
      rcases hp19 with f20 | ⟨f21, f22⟩ | ⟨f23, f24⟩
      · refine lv_astore (lv' := [(4, .ref (ad 38)), (0, .ref (ad 0)), (1, .int p1), (2, .int p2), (3, .int p3)]) hx hb dX8_usual_31 hl (by decide) rfl (fun ls hl => ?_)
        refine lv_aload hx hb dX8_usual_33 (lv_at hl 0 rfl) ?_
        refine z_fini (w' := fun (u25 : Unit) => [(ad 0, .inr (8, xf0 ad)), (ad 23, .inr (5, xf23 ad)), (ad 38, .inr (6, xf38 ad))]) (va_runV (As := []) (rest := []) ⟨hx, hb, hml, hown, hts⟩ (c_X6_hasUsualSpan_73 l dC dI cB cI cJ cZ cP cQ ad H.size) (cwV 0 hts gX8_usual_X6_hasUsualSpan rfl rfl rfl (by decide +kernel) ⟨Nat.le_of_ble_eq_true rfl, Nat.le_of_ble_eq_true rfl⟩) (z_pV (ci := 6) hK hP hD zX_nil [2] (by decide) rfl rfl 2 rfl) rfl rfl hl.1 rfl (lv_room (Nat.le_of_ble_eq_true rfl)) dX8_usual_35 ⟨Nat.le_of_ble_eq_true rfl, Nat.le_of_ble_eq_true rfl⟩) hP hD hS hA [2] [0, 1] [0, 1, 2] rfl rfl (by decide) (by decide) (fun _ => rfl) (by decide) (fun r26 u25 H locs hp27 hP hD hS => ?_)
        have hP : va_P (dC, dI) vwCl [(ad 0, .inr (8, xf0 ad)), (ad 23, .inr (5, xf23 ad)), (ad 38, .inr (6, xf38 ad))] H := hP
        have hD : va_D A [(ad 0, .inr (8, xf0 ad)), (ad 23, .inr (5, xf23 ad)), (ad 38, .inr (6, xf38 ad))] := hD
        refine W.widen (k := 0) (n := 0) (by decide) (by decide) ?_
        obtain rfl : r26 = 0 := hp27
        refine lv_if_eq (tgt := 51) hx hb dX8_usual_38 (by decide) (fun _ => ?_) (fun c => absurd (by decide) c)
        refine lv_ldc hx hb hown hk0 dX8_usual_51 ?_
        have hP9 := hP.sub (ws' := []) [] rfl
        have hD9 := hD.sub (ws' := []) [] (by decide) rfl
        exact z_iret () hx hb hr hlocks hK hP9 hD9 hS hAe hQ rfl (Or.inr (Or.inr (Or.inr (Or.inr (Or.inl ⟨rfl, f7, f8, f15, f16, f20⟩))))) dX8_usual_53
      · refine lv_astore (lv' := [(4, .ref (ad 38)), (0, .ref (ad 0)), (1, .int p1), (2, .int p2), (3, .int p3)]) hx hb dX8_usual_31 hl (by decide) rfl (fun ls hl => ?_)
        refine lv_aload hx hb dX8_usual_33 (lv_at hl 0 rfl) ?_
        refine z_fini (w' := fun (u28 : Unit) => [(ad 0, .inr (8, xf0 ad)), (ad 23, .inr (5, xf23 ad)), (ad 38, .inr (6, xf38 ad))]) (va_runV (As := []) (rest := []) ⟨hx, hb, hml, hown, hts⟩ (c_X6_hasUsualSpan_73 l dC dI cB cI cJ cZ cP cQ ad H.size) (cwV 0 hts gX8_usual_X6_hasUsualSpan rfl rfl rfl (by decide +kernel) ⟨Nat.le_of_ble_eq_true rfl, Nat.le_of_ble_eq_true rfl⟩) (z_pV (ci := 6) hK hP hD zX_nil [2] (by decide) rfl rfl 2 rfl) rfl rfl hl.1 rfl (lv_room (Nat.le_of_ble_eq_true rfl)) dX8_usual_35 ⟨Nat.le_of_ble_eq_true rfl, Nat.le_of_ble_eq_true rfl⟩) hP hD hS hA [2] [0, 1] [0, 1, 2] rfl rfl (by decide) (by decide) (fun _ => rfl) (by decide) (fun r29 u28 H locs hp30 hP hD hS => ?_)
        have hP : va_P (dC, dI) vwCl [(ad 0, .inr (8, xf0 ad)), (ad 23, .inr (5, xf23 ad)), (ad 38, .inr (6, xf38 ad))] H := hP
        have hD : va_D A [(ad 0, .inr (8, xf0 ad)), (ad 23, .inr (5, xf23 ad)), (ad 38, .inr (6, xf38 ad))] := hD
        refine W.widen (k := 0) (n := 0) (by decide) (by decide) ?_
        obtain rfl : r29 = 0 := hp30
        refine lv_if_eq (tgt := 51) hx hb dX8_usual_38 (by decide) (fun _ => ?_) (fun c => absurd (by decide) c)
        refine lv_ldc hx hb hown hk0 dX8_usual_51 ?_
        have hP9 := hP.sub (ws' := []) [] rfl
        have hD9 := hD.sub (ws' := []) [] (by decide) rfl
        exact z_iret () hx hb hr hlocks hK hP9 hD9 hS hAe hQ rfl (Or.inr (Or.inr (Or.inr (Or.inr (Or.inr (Or.inl ⟨rfl, f7, f8, f15, f16, f21, f22⟩)))))) dX8_usual_53
      · refine lv_astore (lv' := [(4, .ref (ad 38)), (0, .ref (ad 0)), (1, .int p1), (2, .int p2), (3, .int p3)]) hx hb dX8_usual_31 hl (by decide) rfl (fun ls hl => ?_)
        refine lv_aload hx hb dX8_usual_33 (lv_at hl 0 rfl) ?_
        refine z_fini (w' := fun (u31 : Unit) => [(ad 0, .inr (8, xf0 ad)), (ad 23, .inr (5, xf23 ad)), (ad 38, .inr (6, xf38 ad))]) (va_runV (As := []) (rest := []) ⟨hx, hb, hml, hown, hts⟩ (c_X6_hasUsualSpan_73 l dC dI cB cI cJ cZ cP cQ ad H.size) (cwV 0 hts gX8_usual_X6_hasUsualSpan rfl rfl rfl (by decide +kernel) ⟨Nat.le_of_ble_eq_true rfl, Nat.le_of_ble_eq_true rfl⟩) (z_pV (ci := 6) hK hP hD zX_nil [2] (by decide) rfl rfl 2 rfl) rfl rfl hl.1 rfl (lv_room (Nat.le_of_ble_eq_true rfl)) dX8_usual_35 ⟨Nat.le_of_ble_eq_true rfl, Nat.le_of_ble_eq_true rfl⟩) hP hD hS hA [2] [0, 1] [0, 1, 2] rfl rfl (by decide) (by decide) (fun _ => rfl) (by decide) (fun r32 u31 H locs hp33 hP hD hS => ?_)
        have hP : va_P (dC, dI) vwCl [(ad 0, .inr (8, xf0 ad)), (ad 23, .inr (5, xf23 ad)), (ad 38, .inr (6, xf38 ad))] H := hP
        have hD : va_D A [(ad 0, .inr (8, xf0 ad)), (ad 23, .inr (5, xf23 ad)), (ad 38, .inr (6, xf38 ad))] := hD
        refine W.widen (k := 0) (n := 0) (by decide) (by decide) ?_
        obtain rfl : r32 = 0 := hp33
        refine lv_if_eq (tgt := 51) hx hb dX8_usual_38 (by decide) (fun _ => ?_) (fun c => absurd (by decide) c)
        refine lv_ldc hx hb hown hk0 dX8_usual_51 ?_
        have hP9 := hP.sub (ws' := []) [] rfl
        have hD9 := hD.sub (ws' := []) [] (by decide) rfl
        exact z_iret () hx hb hr hlocks hK hP9 hD9 hS hAe hQ rfl (Or.inr (Or.inr (Or.inr (Or.inr (Or.inr (Or.inr ⟨rfl, f7, f8, f15, f16, f23, f24⟩)))))) dX8_usual_53
set_option maxHeartbeats 4000000 in
set_option maxRecDepth 100000 in
theorem c_X8_within_75 (l : Launch) (dC : Nat → ClassId) (dI : Nat → Nat → Nat) (cB cI cJ cZ cP cQ : ClassId) (sz : Nat) (p0 : Int32) : Met l yX8_within wsX8_within ({ frames := 0, cells := 0, slots := 0, locals := 0 } : Room) (zPc [.int p0, .int (-99), .int 99] (dC, dI) (zT cB cI cJ cZ cP cQ) [] sz [] []) (va_Qi (fun r _ => (fun r => (r = 0 ∧ p0.toInt < (-99)) ∨ (r = 0 ∧ (-99) ≤ p0.toInt ∧ 99 < p0.toInt) ∨ (r = 1 ∧ (-99) ≤ p0.toInt ∧ p0.toInt ≤ 99)) r) (zB (dC, dI) (zT cB cI cJ cZ cP cQ) (fun _ : Unit => []) [] sz) (va_A [] sz)) 0 0 (va_A [] sz) := by
  refine z_enter (cc := cX8_within) (maxL := 3) (ret := (some .boolean)) (by decide) rfl (Nat.le_of_ble_eq_true rfl) ?_
  intro p e s m below meth c A ls Q H locs hx hb hr hml hown hts hlocks hin hK hP hD hA hX hS hAe hQ hl
  have hown : s.vm.findClass RX8 = some m.cls := hown
  have hl : lv_has ls 3 [(0, .int p0), (1, .int (-99)), (2, .int 99)] := hl
  refine lv_iload_n hx hb dX8_within_0 rfl (lv_at hl 0 rfl) ?_
  refine lv_iload_n hx hb dX8_within_1 rfl (lv_at hl 1 rfl) ?_
  refine lv_icmp_lt (tgt := 14) hx hb dX8_within_2 (by decide) (fun c_1 => ?_) (fun c_1 => ?_)
  · have f2 : p0.toInt < (-99) := z_lt rfl (by decide) c_1
    refine lv_iconst (v := 0) hx hb dX8_within_14 (by decide) ?_
    exact z_zret () hx hb hr hlocks hK hP hD hS hAe hQ rfl (Or.inl (⟨rfl, f2⟩)) (by decide) dX8_within_15
  · have f2 : (-99) ≤ p0.toInt := z_nlt rfl (by decide) c_1
    refine lv_iload_n hx hb dX8_within_5 rfl (lv_at hl 0 rfl) ?_
    refine lv_iload_n hx hb dX8_within_6 rfl (lv_at hl 2 rfl) ?_
    refine lv_icmp_gt (tgt := 14) hx hb dX8_within_7 (by decide) (fun c_3 => ?_) (fun c_3 => ?_)
    · have f4 : 99 < p0.toInt := z_lt (by decide) rfl c_3
      refine lv_iconst (v := 0) hx hb dX8_within_14 (by decide) ?_
      exact z_zret () hx hb hr hlocks hK hP hD hS hAe hQ rfl (Or.inr (Or.inl ⟨rfl, f2, f4⟩)) (by decide) dX8_within_15
    · have f4 : p0.toInt ≤ 99 := z_nlt (by decide) rfl c_3
      refine lv_iconst (v := 1) hx hb dX8_within_10 (by decide) ?_
      refine lv_goto (tgt := 15) hx hb dX8_within_11 (by decide) ?_
      exact z_zret () hx hb hr hlocks hK hP hD hS hAe hQ rfl (Or.inr (Or.inr ⟨rfl, f2, f4⟩)) (by decide) dX8_within_15
set_option maxHeartbeats 4000000 in
set_option maxRecDepth 100000 in
theorem c_X8_kept_75 (l : Launch) (dC : Nat → ClassId) (dI : Nat → Nat → Nat) (cB cI cJ cZ cP cQ : ClassId) (ad : Nat → Nat) (sz : Nat) (p1 : Int32) (p2 : Int32) (p3 : Int32) : Met l yX8_kept wsX8_kept ({ frames := 3, cells := 0, slots := 0, locals := 65 } : Room) (zPc [.ref (ad 0), .int p1, .int p2, .int p3] (dC, dI) (zT cB cI cJ cZ cP cQ) [(ad 0, .inr (8, xf0 ad)), (ad 23, .inr (5, xf23 ad)), (ad 38, .inr (6, xf38 ad))] sz [] []) (va_Qi (fun r _ => (fun r => (r = (-2) ∧ p2.toInt < 1) ∨ (r = (-2) ∧ 1 ≤ p2.toInt ∧ 10 < p2.toInt) ∨ (r = (-2) ∧ 1 ≤ p2.toInt ∧ p2.toInt ≤ 10 ∧ p3.toInt < (-99)) ∨ (r = (-2) ∧ 1 ≤ p2.toInt ∧ p2.toInt ≤ 10 ∧ (-99) ≤ p3.toInt ∧ 99 < p3.toInt) ∨ (r = (-2) ∧ 1 ≤ p2.toInt ∧ p2.toInt ≤ 10 ∧ (-99) ≤ p3.toInt ∧ p3.toInt ≤ 99 ∧ p1.toInt < 1) ∨ (r = (-2) ∧ 1 ≤ p2.toInt ∧ p2.toInt ≤ 10 ∧ (-99) ≤ p3.toInt ∧ p3.toInt ≤ 99 ∧ 1 ≤ p1.toInt ∧ 4094 < p1.toInt) ∨ (r = (-2) ∧ 1 ≤ p2.toInt ∧ p2.toInt ≤ 10 ∧ (-99) ≤ p3.toInt ∧ p3.toInt ≤ 99 ∧ 1 ≤ p1.toInt ∧ p1.toInt ≤ 4094)) r) (zB (dC, dI) (zT cB cI cJ cZ cP cQ) (fun _ : Unit => []) [(ad 0, .inr (8, xf0 ad)), (ad 23, .inr (5, xf23 ad)), (ad 38, .inr (6, xf38 ad))] sz) (va_A [(ad 0, .inr (8, xf0 ad)), (ad 23, .inr (5, xf23 ad)), (ad 38, .inr (6, xf38 ad))] sz)) 0 0 (va_A [(ad 0, .inr (8, xf0 ad)), (ad 23, .inr (5, xf23 ad)), (ad 38, .inr (6, xf38 ad))] sz) := by
  refine z_enter (cc := cX8_kept) (maxL := 5) (ret := (some .int)) (by decide) rfl (Nat.le_of_ble_eq_true rfl) ?_
  intro p e s m below meth c A ls Q H locs hx hb hr hml hown hts hlocks hin hK hP hD hA hX hS hAe hQ hl
  have hown : s.vm.findClass RX8 = some m.cls := hown
  have hi8 : ∀ w ∈ wsX80, w ∈ wsX8_kept := fun w h => List.mem_cons_of_mem _ (List.mem_append_left _ (List.mem_append_left _ (List.mem_append_right _ h)))
  have hk0 := hts (.fieldLink RX8 29 "MonthPush" "all" "LMonthPush$Sheets;") (by decide +kernel)
  have hl : lv_has ls 5 [(0, .ref (ad 0)), (1, .int p1), (2, .int p2), (3, .int p3)] := hl
  refine lv_iload_n hx hb dX8_kept_0 rfl (lv_at hl 2 rfl) ?_
  refine lv_iconst (v := 1) hx hb dX8_kept_1 (by decide) ?_
  refine lv_bipush (v := 10) hx hb dX8_kept_2 (by decide) ?_
  refine z_fini (w' := fun (u1 : Unit) => [(ad 0, .inr (8, xf0 ad)), (ad 23, .inr (5, xf23 ad)), (ad 38, .inr (6, xf38 ad))]) (va_runS (As := [.int p2, .int 1, .int 10]) (rest := []) ⟨hx, hb, hml, hown, hts⟩ (c_X8_within_71 l dC dI cB cI cJ cZ cP cQ H.size p2) (va_cwS 3 hts gX8_kept_X8_within rfl rfl rfl (by decide +kernel) ⟨Nat.le_of_ble_eq_true rfl, Nat.le_of_ble_eq_true rfl⟩) (z_pS hK hP hD zX_nil [] (by decide) rfl) rfl rfl hl.1 rfl (lv_room (Nat.le_of_ble_eq_true rfl)) dX8_kept_4 ⟨Nat.le_of_ble_eq_true rfl, Nat.le_of_ble_eq_true rfl⟩) hP hD hS hA [] [0, 1, 2] [0, 1, 2] rfl rfl (by decide) (by decide) (fun _ => rfl) (by decide) (fun r2 u1 H locs hp3 hP hD hS => ?_)
  have hP : va_P (dC, dI) vwCl [(ad 0, .inr (8, xf0 ad)), (ad 23, .inr (5, xf23 ad)), (ad 38, .inr (6, xf38 ad))] H := hP
  have hD : va_D A [(ad 0, .inr (8, xf0 ad)), (ad 23, .inr (5, xf23 ad)), (ad 38, .inr (6, xf38 ad))] := hD
  refine W.widen (k := 0) (n := 0) (by decide) (by decide) ?_
  rcases hp3 with ⟨rfl, f4⟩ | ⟨rfl, f5, f6⟩ | ⟨rfl, f7, f8⟩
  · refine lv_if_eq (tgt := 21) hx hb dX8_kept_7 (by decide) (fun _ => ?_) (fun c => absurd (by decide) c)
    refine lv_bipush (v := (-2)) hx hb dX8_kept_21 (by decide) ?_
    have hP9 := hP.sub (ws' := []) [] rfl
    have hD9 := hD.sub (ws' := []) [] (by decide) rfl
    exact z_iret () hx hb hr hlocks hK hP9 hD9 hS hAe hQ rfl (Or.inl (⟨rfl, f4⟩)) dX8_kept_23
  · refine lv_if_eq (tgt := 21) hx hb dX8_kept_7 (by decide) (fun _ => ?_) (fun c => absurd (by decide) c)
    refine lv_bipush (v := (-2)) hx hb dX8_kept_21 (by decide) ?_
    have hP9 := hP.sub (ws' := []) [] rfl
    have hD9 := hD.sub (ws' := []) [] (by decide) rfl
    exact z_iret () hx hb hr hlocks hK hP9 hD9 hS hAe hQ rfl (Or.inr (Or.inl ⟨rfl, f5, f6⟩)) dX8_kept_23
  · refine lv_if_eq (tgt := 21) hx hb dX8_kept_7 (by decide) (fun c => absurd c (by decide)) (fun _ => ?_)
    refine lv_iload_n hx hb dX8_kept_10 rfl (lv_at hl 3 rfl) ?_
    refine lv_bipush (v := (-99)) hx hb dX8_kept_11 (by decide) ?_
    refine lv_bipush (v := 99) hx hb dX8_kept_13 (by decide) ?_
    refine z_fini (w' := fun (u9 : Unit) => [(ad 0, .inr (8, xf0 ad)), (ad 23, .inr (5, xf23 ad)), (ad 38, .inr (6, xf38 ad))]) (va_runS (As := [.int p3, .int (-99), .int 99]) (rest := []) ⟨hx, hb, hml, hown, hts⟩ (c_X8_within_75 l dC dI cB cI cJ cZ cP cQ H.size p3) (va_cwS 3 hts gX8_kept_X8_within rfl rfl rfl (by decide +kernel) ⟨Nat.le_of_ble_eq_true rfl, Nat.le_of_ble_eq_true rfl⟩) (z_pS hK hP hD zX_nil [] (by decide) rfl) rfl rfl hl.1 rfl (lv_room (Nat.le_of_ble_eq_true rfl)) dX8_kept_15 ⟨Nat.le_of_ble_eq_true rfl, Nat.le_of_ble_eq_true rfl⟩) hP hD hS hA [] [0, 1, 2] [0, 1, 2] rfl rfl (by decide) (by decide) (fun _ => rfl) (by decide) (fun r10 u9 H locs hp11 hP hD hS => ?_)
    have hP : va_P (dC, dI) vwCl [(ad 0, .inr (8, xf0 ad)), (ad 23, .inr (5, xf23 ad)), (ad 38, .inr (6, xf38 ad))] H := hP
    have hD : va_D A [(ad 0, .inr (8, xf0 ad)), (ad 23, .inr (5, xf23 ad)), (ad 38, .inr (6, xf38 ad))] := hD
    refine W.widen (k := 0) (n := 0) (by decide) (by decide) ?_
    rcases hp11 with ⟨rfl, f12⟩ | ⟨rfl, f13, f14⟩ | ⟨rfl, f15, f16⟩
    · refine lv_if_ne (tgt := 24) hx hb dX8_kept_18 (by decide) (fun c => absurd (by decide) c) (fun _ => ?_)
      refine lv_bipush (v := (-2)) hx hb dX8_kept_21 (by decide) ?_
      have hP9 := hP.sub (ws' := []) [] rfl
      have hD9 := hD.sub (ws' := []) [] (by decide) rfl
      exact z_iret () hx hb hr hlocks hK hP9 hD9 hS hAe hQ rfl (Or.inr (Or.inr (Or.inl ⟨rfl, f7, f8, f12⟩))) dX8_kept_23
    · refine lv_if_ne (tgt := 24) hx hb dX8_kept_18 (by decide) (fun c => absurd (by decide) c) (fun _ => ?_)
      refine lv_bipush (v := (-2)) hx hb dX8_kept_21 (by decide) ?_
      have hP9 := hP.sub (ws' := []) [] rfl
      have hD9 := hD.sub (ws' := []) [] (by decide) rfl
      exact z_iret () hx hb hr hlocks hK hP9 hD9 hS hAe hQ rfl (Or.inr (Or.inr (Or.inr (Or.inl ⟨rfl, f7, f8, f13, f14⟩)))) dX8_kept_23
    · refine lv_if_ne (tgt := 24) hx hb dX8_kept_18 (by decide) (fun _ => ?_) (fun c => absurd c (by decide))
      refine lv_aload_n hx hb dX8_kept_24 rfl (lv_at hl 0 rfl) ?_
      refine lv_aload_n hx hb dX8_kept_25 rfl (lv_at hl 0 rfl) ?_
      refine va_get (D := (dC, dI)) (ci := 8) (v := .ref (ad 23)) (C := RX8) (T := TX8) (N := 10) hx hb hts hi8 hown hK hP 0 rfl rfl 3 (by decide) hk0 (fun _ h9 => h9) rfl dX8_kept_26 ?_
      refine lv_iload_n hx hb dX8_kept_29 rfl (lv_at hl 1 rfl) ?_
      refine z_finr (w' := fun (u17 : Unit) => [(ad 0, .inr (8, xf0 ad)), (ad 23, .inr (5, xf23 ad)), (ad 38, .inr (6, xf38 ad))]) (va_runV (As := [.ref (ad 23), .int p1]) (rest := []) ⟨hx, hb, hml, hown, hts⟩ (c_X8_divided_53 l dC dI cB cI cJ cZ cP cQ ad H.size p1) (cwV 2 hts gX8_kept_X8_divided rfl rfl rfl (by decide +kernel) ⟨Nat.le_of_ble_eq_true rfl, Nat.le_of_ble_eq_true rfl⟩) (z_pV (ci := 8) hK hP hD zX_nil [0, 1, 2] (by decide) rfl rfl 0 rfl) rfl rfl hl.1 rfl (lv_room (Nat.le_of_ble_eq_true rfl)) dX8_kept_30 ⟨Nat.le_of_ble_eq_true rfl, Nat.le_of_ble_eq_true rfl⟩) hP hD hS hA [0, 1, 2] [] [0, 1, 2] rfl rfl (by decide) (by decide) (fun _ => rfl) (by decide) (fun u17 H locs hp19 hP hD hS => ?_)
      have hP : va_P (dC, dI) vwCl [(ad 0, .inr (8, xf0 ad)), (ad 23, .inr (5, xf23 ad)), (ad 38, .inr (6, xf38 ad))] H := hP
      have hD : va_D A [(ad 0, .inr (8, xf0 ad)), (ad 23, .inr (5, xf23 ad)), (ad 38, .inr (6, xf38 ad))] := hD
      refine W.widen (k := 0) (n := 0) (by decide) (by decide) ?_
      rcases hp19 with f20 | ⟨f21, f22⟩ | ⟨f23, f24⟩
      · refine lv_astore (lv' := [(4, .ref (ad 38)), (0, .ref (ad 0)), (1, .int p1), (2, .int p2), (3, .int p3)]) hx hb dX8_kept_33 hl (by decide) rfl (fun ls hl => ?_)
        refine lv_aload hx hb dX8_kept_35 (lv_at hl 0 rfl) ?_
        refine z_fini (w' := fun (u25 : Unit) => [(ad 0, .inr (8, xf0 ad)), (ad 23, .inr (5, xf23 ad)), (ad 38, .inr (6, xf38 ad))]) (va_runV (As := []) (rest := []) ⟨hx, hb, hml, hown, hts⟩ (c_X6_hasSpan_68 l dC dI cB cI cJ cZ cP cQ ad H.size) (cwV 0 hts gX8_kept_X6_hasSpan rfl rfl rfl (by decide +kernel) ⟨Nat.le_of_ble_eq_true rfl, Nat.le_of_ble_eq_true rfl⟩) (z_pV (ci := 6) hK hP hD zX_nil [2] (by decide) rfl rfl 2 rfl) rfl rfl hl.1 rfl (lv_room (Nat.le_of_ble_eq_true rfl)) dX8_kept_37 ⟨Nat.le_of_ble_eq_true rfl, Nat.le_of_ble_eq_true rfl⟩) hP hD hS hA [2] [0, 1] [0, 1, 2] rfl rfl (by decide) (by decide) (fun _ => rfl) (by decide) (fun r26 u25 H locs hp27 hP hD hS => ?_)
        have hP : va_P (dC, dI) vwCl [(ad 0, .inr (8, xf0 ad)), (ad 23, .inr (5, xf23 ad)), (ad 38, .inr (6, xf38 ad))] H := hP
        have hD : va_D A [(ad 0, .inr (8, xf0 ad)), (ad 23, .inr (5, xf23 ad)), (ad 38, .inr (6, xf38 ad))] := hD
        refine W.widen (k := 0) (n := 0) (by decide) (by decide) ?_
        obtain rfl : r26 = 0 := hp27
        refine lv_if_ne (tgt := 46) hx hb dX8_kept_40 (by decide) (fun c => absurd (by decide) c) (fun _ => ?_)
        refine lv_bipush (v := (-2)) hx hb dX8_kept_43 (by decide) ?_
        have hP9 := hP.sub (ws' := []) [] rfl
        have hD9 := hD.sub (ws' := []) [] (by decide) rfl
        exact z_iret () hx hb hr hlocks hK hP9 hD9 hS hAe hQ rfl (Or.inr (Or.inr (Or.inr (Or.inr (Or.inl ⟨rfl, f7, f8, f15, f16, f20⟩))))) dX8_kept_45
      · refine lv_astore (lv' := [(4, .ref (ad 38)), (0, .ref (ad 0)), (1, .int p1), (2, .int p2), (3, .int p3)]) hx hb dX8_kept_33 hl (by decide) rfl (fun ls hl => ?_)
        refine lv_aload hx hb dX8_kept_35 (lv_at hl 0 rfl) ?_
        refine z_fini (w' := fun (u28 : Unit) => [(ad 0, .inr (8, xf0 ad)), (ad 23, .inr (5, xf23 ad)), (ad 38, .inr (6, xf38 ad))]) (va_runV (As := []) (rest := []) ⟨hx, hb, hml, hown, hts⟩ (c_X6_hasSpan_68 l dC dI cB cI cJ cZ cP cQ ad H.size) (cwV 0 hts gX8_kept_X6_hasSpan rfl rfl rfl (by decide +kernel) ⟨Nat.le_of_ble_eq_true rfl, Nat.le_of_ble_eq_true rfl⟩) (z_pV (ci := 6) hK hP hD zX_nil [2] (by decide) rfl rfl 2 rfl) rfl rfl hl.1 rfl (lv_room (Nat.le_of_ble_eq_true rfl)) dX8_kept_37 ⟨Nat.le_of_ble_eq_true rfl, Nat.le_of_ble_eq_true rfl⟩) hP hD hS hA [2] [0, 1] [0, 1, 2] rfl rfl (by decide) (by decide) (fun _ => rfl) (by decide) (fun r29 u28 H locs hp30 hP hD hS => ?_)
        have hP : va_P (dC, dI) vwCl [(ad 0, .inr (8, xf0 ad)), (ad 23, .inr (5, xf23 ad)), (ad 38, .inr (6, xf38 ad))] H := hP
        have hD : va_D A [(ad 0, .inr (8, xf0 ad)), (ad 23, .inr (5, xf23 ad)), (ad 38, .inr (6, xf38 ad))] := hD
        refine W.widen (k := 0) (n := 0) (by decide) (by decide) ?_
        obtain rfl : r29 = 0 := hp30
        refine lv_if_ne (tgt := 46) hx hb dX8_kept_40 (by decide) (fun c => absurd (by decide) c) (fun _ => ?_)
        refine lv_bipush (v := (-2)) hx hb dX8_kept_43 (by decide) ?_
        have hP9 := hP.sub (ws' := []) [] rfl
        have hD9 := hD.sub (ws' := []) [] (by decide) rfl
        exact z_iret () hx hb hr hlocks hK hP9 hD9 hS hAe hQ rfl (Or.inr (Or.inr (Or.inr (Or.inr (Or.inr (Or.inl ⟨rfl, f7, f8, f15, f16, f21, f22⟩)))))) dX8_kept_45
      · refine lv_astore (lv' := [(4, .ref (ad 38)), (0, .ref (ad 0)), (1, .int p1), (2, .int p2), (3, .int p3)]) hx hb dX8_kept_33 hl (by decide) rfl (fun ls hl => ?_)
        refine lv_aload hx hb dX8_kept_35 (lv_at hl 0 rfl) ?_
        refine z_fini (w' := fun (u31 : Unit) => [(ad 0, .inr (8, xf0 ad)), (ad 23, .inr (5, xf23 ad)), (ad 38, .inr (6, xf38 ad))]) (va_runV (As := []) (rest := []) ⟨hx, hb, hml, hown, hts⟩ (c_X6_hasSpan_68 l dC dI cB cI cJ cZ cP cQ ad H.size) (cwV 0 hts gX8_kept_X6_hasSpan rfl rfl rfl (by decide +kernel) ⟨Nat.le_of_ble_eq_true rfl, Nat.le_of_ble_eq_true rfl⟩) (z_pV (ci := 6) hK hP hD zX_nil [2] (by decide) rfl rfl 2 rfl) rfl rfl hl.1 rfl (lv_room (Nat.le_of_ble_eq_true rfl)) dX8_kept_37 ⟨Nat.le_of_ble_eq_true rfl, Nat.le_of_ble_eq_true rfl⟩) hP hD hS hA [2] [0, 1] [0, 1, 2] rfl rfl (by decide) (by decide) (fun _ => rfl) (by decide) (fun r32 u31 H locs hp33 hP hD hS => ?_)
        have hP : va_P (dC, dI) vwCl [(ad 0, .inr (8, xf0 ad)), (ad 23, .inr (5, xf23 ad)), (ad 38, .inr (6, xf38 ad))] H := hP
        have hD : va_D A [(ad 0, .inr (8, xf0 ad)), (ad 23, .inr (5, xf23 ad)), (ad 38, .inr (6, xf38 ad))] := hD
        refine W.widen (k := 0) (n := 0) (by decide) (by decide) ?_
        obtain rfl : r32 = 0 := hp33
        refine lv_if_ne (tgt := 46) hx hb dX8_kept_40 (by decide) (fun c => absurd (by decide) c) (fun _ => ?_)
        refine lv_bipush (v := (-2)) hx hb dX8_kept_43 (by decide) ?_
        have hP9 := hP.sub (ws' := []) [] rfl
        have hD9 := hD.sub (ws' := []) [] (by decide) rfl
        exact z_iret () hx hb hr hlocks hK hP9 hD9 hS hAe hQ rfl (Or.inr (Or.inr (Or.inr (Or.inr (Or.inr (Or.inr ⟨rfl, f7, f8, f15, f16, f23, f24⟩)))))) dX8_kept_45
set_option maxHeartbeats 4000000 in
set_option maxRecDepth 100000 in
theorem c_X8_within_77 (l : Launch) (dC : Nat → ClassId) (dI : Nat → Nat → Nat) (cB cI cJ cZ cP cQ : ClassId) (sz : Nat) (p0 : Int32) : Met l yX8_within wsX8_within ({ frames := 0, cells := 0, slots := 0, locals := 0 } : Room) (zPc [.int p0, .int 1, .int 40] (dC, dI) (zT cB cI cJ cZ cP cQ) [] sz [] []) (va_Qi (fun r _ => (fun r => (r = 0 ∧ p0.toInt < 1) ∨ (r = 0 ∧ 1 ≤ p0.toInt ∧ 40 < p0.toInt) ∨ (r = 1 ∧ 1 ≤ p0.toInt ∧ p0.toInt ≤ 40)) r) (zB (dC, dI) (zT cB cI cJ cZ cP cQ) (fun _ : Unit => []) [] sz) (va_A [] sz)) 0 0 (va_A [] sz) := by
  refine z_enter (cc := cX8_within) (maxL := 3) (ret := (some .boolean)) (by decide) rfl (Nat.le_of_ble_eq_true rfl) ?_
  intro p e s m below meth c A ls Q H locs hx hb hr hml hown hts hlocks hin hK hP hD hA hX hS hAe hQ hl
  have hown : s.vm.findClass RX8 = some m.cls := hown
  have hl : lv_has ls 3 [(0, .int p0), (1, .int 1), (2, .int 40)] := hl
  refine lv_iload_n hx hb dX8_within_0 rfl (lv_at hl 0 rfl) ?_
  refine lv_iload_n hx hb dX8_within_1 rfl (lv_at hl 1 rfl) ?_
  refine lv_icmp_lt (tgt := 14) hx hb dX8_within_2 (by decide) (fun c_1 => ?_) (fun c_1 => ?_)
  · have f2 : p0.toInt < 1 := z_lt rfl (by decide) c_1
    refine lv_iconst (v := 0) hx hb dX8_within_14 (by decide) ?_
    exact z_zret () hx hb hr hlocks hK hP hD hS hAe hQ rfl (Or.inl (⟨rfl, f2⟩)) (by decide) dX8_within_15
  · have f2 : 1 ≤ p0.toInt := z_nlt rfl (by decide) c_1
    refine lv_iload_n hx hb dX8_within_5 rfl (lv_at hl 0 rfl) ?_
    refine lv_iload_n hx hb dX8_within_6 rfl (lv_at hl 2 rfl) ?_
    refine lv_icmp_gt (tgt := 14) hx hb dX8_within_7 (by decide) (fun c_3 => ?_) (fun c_3 => ?_)
    · have f4 : 40 < p0.toInt := z_lt (by decide) rfl c_3
      refine lv_iconst (v := 0) hx hb dX8_within_14 (by decide) ?_
      exact z_zret () hx hb hr hlocks hK hP hD hS hAe hQ rfl (Or.inr (Or.inl ⟨rfl, f2, f4⟩)) (by decide) dX8_within_15
    · have f4 : p0.toInt ≤ 40 := z_nlt (by decide) rfl c_3
      refine lv_iconst (v := 1) hx hb dX8_within_10 (by decide) ?_
      refine lv_goto (tgt := 15) hx hb dX8_within_11 (by decide) ?_
      exact z_zret () hx hb hr hlocks hK hP hD hS hAe hQ rfl (Or.inr (Or.inr ⟨rfl, f2, f4⟩)) (by decide) dX8_within_15
set_option maxHeartbeats 4000000 in
set_option maxRecDepth 100000 in
theorem c_X8_within_78 (l : Launch) (dC : Nat → ClassId) (dI : Nat → Nat → Nat) (cB cI cJ cZ cP cQ : ClassId) (sz : Nat) (p0 : Int32) : Met l yX8_within wsX8_within ({ frames := 0, cells := 0, slots := 0, locals := 0 } : Room) (zPc [.int p0, .int 0, .int 2] (dC, dI) (zT cB cI cJ cZ cP cQ) [] sz [] []) (va_Qi (fun r _ => (fun r => (r = 0 ∧ p0.toInt < 0) ∨ (r = 0 ∧ 0 ≤ p0.toInt ∧ 2 < p0.toInt) ∨ (r = 1 ∧ 0 ≤ p0.toInt ∧ p0.toInt ≤ 2)) r) (zB (dC, dI) (zT cB cI cJ cZ cP cQ) (fun _ : Unit => []) [] sz) (va_A [] sz)) 0 0 (va_A [] sz) := by
  refine z_enter (cc := cX8_within) (maxL := 3) (ret := (some .boolean)) (by decide) rfl (Nat.le_of_ble_eq_true rfl) ?_
  intro p e s m below meth c A ls Q H locs hx hb hr hml hown hts hlocks hin hK hP hD hA hX hS hAe hQ hl
  have hown : s.vm.findClass RX8 = some m.cls := hown
  have hl : lv_has ls 3 [(0, .int p0), (1, .int 0), (2, .int 2)] := hl
  refine lv_iload_n hx hb dX8_within_0 rfl (lv_at hl 0 rfl) ?_
  refine lv_iload_n hx hb dX8_within_1 rfl (lv_at hl 1 rfl) ?_
  refine lv_icmp_lt (tgt := 14) hx hb dX8_within_2 (by decide) (fun c_1 => ?_) (fun c_1 => ?_)
  · have f2 : p0.toInt < 0 := z_lt rfl (by decide) c_1
    refine lv_iconst (v := 0) hx hb dX8_within_14 (by decide) ?_
    exact z_zret () hx hb hr hlocks hK hP hD hS hAe hQ rfl (Or.inl (⟨rfl, f2⟩)) (by decide) dX8_within_15
  · have f2 : 0 ≤ p0.toInt := z_nlt rfl (by decide) c_1
    refine lv_iload_n hx hb dX8_within_5 rfl (lv_at hl 0 rfl) ?_
    refine lv_iload_n hx hb dX8_within_6 rfl (lv_at hl 2 rfl) ?_
    refine lv_icmp_gt (tgt := 14) hx hb dX8_within_7 (by decide) (fun c_3 => ?_) (fun c_3 => ?_)
    · have f4 : 2 < p0.toInt := z_lt (by decide) rfl c_3
      refine lv_iconst (v := 0) hx hb dX8_within_14 (by decide) ?_
      exact z_zret () hx hb hr hlocks hK hP hD hS hAe hQ rfl (Or.inr (Or.inl ⟨rfl, f2, f4⟩)) (by decide) dX8_within_15
    · have f4 : p0.toInt ≤ 2 := z_nlt (by decide) rfl c_3
      refine lv_iconst (v := 1) hx hb dX8_within_10 (by decide) ?_
      refine lv_goto (tgt := 15) hx hb dX8_within_11 (by decide) ?_
      exact z_zret () hx hb hr hlocks hK hP hD hS hAe hQ rfl (Or.inr (Or.inr ⟨rfl, f2, f4⟩)) (by decide) dX8_within_15
set_option maxHeartbeats 4000000 in
set_option maxRecDepth 100000 in
theorem c_X0_from_79 (l : Launch) (dC : Nat → ClassId) (dI : Nat → Nat → Nat) (cB cI cJ cZ cP cQ : ClassId) (ad : Nat → Nat) (sz : Nat) (p1 : Int32) : Met l yX0_from wsX0_from ({ frames := 0, cells := 0, slots := 0, locals := 0 } : Room) (zPc [.ref (ad 37), .int p1] (dC, dI) (zT cB cI cJ cZ cP cQ) [(ad 37, .inr (0, xf37 ad))] sz [] []) (va_Qv (fun _ => True) (zB (dC, dI) (zT cB cI cJ cZ cP cQ) (fun _ : Unit => [(ad 37, .inr (0, ((xf37 ad).set 0 (.long p1.toInt64))))]) [(ad 37, .inr (0, xf37 ad))] sz) (va_A [(ad 37, .inr (0, xf37 ad))] sz)) 0 0 (va_A [(ad 37, .inr (0, xf37 ad))] sz) := by
  refine z_enter (cc := cX0_from) (maxL := 2) (ret := none) (by decide) rfl (Nat.le_of_ble_eq_true rfl) ?_
  intro p e s m below meth c A ls Q H locs hx hb hr hml hown hts hlocks hin hK hP hD hA hX hS hAe hQ hl
  have hown : s.vm.findClass RX0 = some m.cls := hown
  have hi0 : ∀ w ∈ wsX00, w ∈ wsX0_from := fun w h => List.mem_cons_of_mem _ (List.mem_append_right _ h)
  have hk0 := hts (.fieldLink RX0 7 "MonthPush$Draws" "x" "J") (by decide +kernel)
  have hl : lv_has ls 2 [(0, .ref (ad 37)), (1, .int p1)] := hl
  refine lv_aload_n hx hb dX0_from_0 rfl (lv_at hl 0 rfl) ?_
  refine lv_iload_n hx hb dX0_from_1 rfl (lv_at hl 1 rfl) ?_
  refine lv_i2l hx hb dX0_from_2 rfl ?_
  refine va_put (D := (dC, dI)) (ci := 0) (v := .long p1.toInt64) (ty := .long) (C := RX0) (T := TX0) (N := 1) hx hb hts hi0 tyX0 tyX0_ok nmX0 hown hK hP hD hS 0 rfl rfl 0 (by decide) hk0 (fun _ h9 => h9) rfl (by decide +kernel) rfl rfl (Nat.le_of_ble_eq_true rfl) dX0_from_3 (fun H locs hP hD hS => ?_)
  have hP : va_P (dC, dI) vwCl [(ad 37, .inr (0, ((xf37 ad).set 0 (.long p1.toInt64))))] H := hP
  have hD : va_D A [(ad 37, .inr (0, ((xf37 ad).set 0 (.long p1.toInt64))))] := hD
  exact z_vret () hx hb hr hlocks hK hP hD hS hAe hQ rfl trivial dX0_from_6
set_option maxHeartbeats 4000000 in
set_option maxRecDepth 100000 in
theorem c_X8_drawHat_80 (l : Launch) (dC : Nat → ClassId) (dI : Nat → Nat → Nat) (cB cI cJ cZ cP cQ : ClassId) (ad : Nat → Nat) (sz : Nat) : Met l yX8_drawHat wsX8_drawHat ({ frames := 1, cells := 0, slots := 0, locals := 20 } : Room) (zPc [.ref (ad 0)] (dC, dI) (zT cB cI cJ cZ cP cQ) [(ad 0, .inr (8, xf0 ad)), (ad 23, .inr (5, xf23 ad)), (ad 38, .inr (6, xf38 ad))] sz [] []) (va_Qv (fun _ => True) (zB (dC, dI) (zT cB cI cJ cZ cP cQ) (fun _ : Unit => [(ad 0, .inr (8, xf0 ad)), (ad 23, .inr (5, xf23 ad)), (ad 38, .inr (6, xf38 ad))]) [(ad 0, .inr (8, xf0 ad)), (ad 23, .inr (5, xf23 ad)), (ad 38, .inr (6, xf38 ad))] sz) (va_A [(ad 0, .inr (8, xf0 ad)), (ad 23, .inr (5, xf23 ad)), (ad 38, .inr (6, xf38 ad))] sz)) 0 0 (va_A [(ad 0, .inr (8, xf0 ad)), (ad 23, .inr (5, xf23 ad)), (ad 38, .inr (6, xf38 ad))] sz) := by
  refine z_enter (cc := cX8_drawHat) (maxL := 2) (ret := none) (by decide) rfl (Nat.le_of_ble_eq_true rfl) ?_
  intro p e s m below meth c A ls Q H locs hx hb hr hml hown hts hlocks hin hK hP hD hA hX hS hAe hQ hl
  have hown : s.vm.findClass RX8 = some m.cls := hown
  have hi5 : ∀ w ∈ wsX50, w ∈ wsX8_drawHat := fun w h => List.mem_cons_of_mem _ (List.mem_append_left _ (List.mem_append_left _ (List.mem_append_right _ h)))
  have hi8 : ∀ w ∈ wsX80, w ∈ wsX8_drawHat := fun w h => List.mem_cons_of_mem _ (List.mem_append_left _ (List.mem_append_left _ (List.mem_append_left _ (List.mem_append_right _ h))))
  have hk0 := hts (.fieldLink RX8 46 "MonthPush" "split" "LMonthPush$Split;") (by decide +kernel)
  have hk1 := hts (.fieldLink RX8 29 "MonthPush" "all" "LMonthPush$Sheets;") (by decide +kernel)
  have hk2 := hts (.fieldLink RX8 127 "MonthPush$Sheets" "n" "I") (by decide +kernel)
  have hl : lv_has ls 2 [(0, .ref (ad 0))] := hl
  refine lv_aload_n hx hb dX8_drawHat_0 rfl (lv_at hl 0 rfl) ?_
  refine va_get (D := (dC, dI)) (ci := 8) (v := .ref (ad 38)) (C := RX8) (T := TX8) (N := 10) hx hb hts hi8 hown hK hP 0 rfl rfl 6 (by decide) hk0 (fun _ h9 => h9) rfl dX8_drawHat_1 ?_
  refine z_finv (w' := fun (u1 : Unit) => [(ad 0, .inr (8, xf0 ad)), (ad 23, .inr (5, xf23 ad)), (ad 38, .inr (6, xf38 ad))]) (va_runV (As := []) (rest := []) ⟨hx, hb, hml, hown, hts⟩ (c_X6_clear_47 l dC dI cB cI cJ cZ cP cQ ad H.size) (cwV 0 hts gX8_drawHat_X6_clear rfl rfl rfl (by decide +kernel) ⟨Nat.le_of_ble_eq_true rfl, Nat.le_of_ble_eq_true rfl⟩) (z_pV (ci := 6) hK hP hD zX_nil [2] (by decide) rfl rfl 2 rfl) rfl rfl hl.1 rfl (lv_room (Nat.le_of_ble_eq_true rfl)) dX8_drawHat_4 ⟨Nat.le_of_ble_eq_true rfl, Nat.le_of_ble_eq_true rfl⟩) hP hD hS hA [2] [0, 1] [0, 1, 2] rfl rfl (by decide) (by decide) (fun _ => rfl) (by decide) (fun u1 H locs hp3 hP hD hS => ?_)
  have hP : va_P (dC, dI) vwCl [(ad 0, .inr (8, xf0 ad)), (ad 23, .inr (5, xf23 ad)), (ad 38, .inr (6, xf38 ad))] H := hP
  have hD : va_D A [(ad 0, .inr (8, xf0 ad)), (ad 23, .inr (5, xf23 ad)), (ad 38, .inr (6, xf38 ad))] := hD
  refine W.widen (k := 0) (n := 0) (by decide) (by decide) ?_
  refine lv_iconst (v := 0) hx hb dX8_drawHat_7 (by decide) ?_
  refine lv_istore_n (lv' := [(1, .int 0), (0, .ref (ad 0))]) hx hb dX8_drawHat_8 rfl hl (by decide) rfl (fun ls hl => ?_)
  refine lv_iload_n hx hb dX8_drawHat_9 rfl (lv_at hl 0 rfl) ?_
  refine lv_aload_n hx hb dX8_drawHat_10 rfl (lv_at hl 1 rfl) ?_
  refine va_get (D := (dC, dI)) (ci := 8) (v := .ref (ad 23)) (C := RX8) (T := TX8) (N := 10) hx hb hts hi8 hown hK hP 0 rfl rfl 3 (by decide) hk1 (fun _ h9 => h9) rfl dX8_drawHat_11 ?_
  refine va_get (D := (dC, dI)) (ci := 5) (v := .int 0) (C := RX5) (T := TX5) (N := 7) hx hb hts hi5 hown hK hP 1 rfl rfl 0 (by decide) hk2 (fun _ h9 => h9) rfl dX8_drawHat_14 ?_
  refine lv_icmp_ge (tgt := 55) hx hb dX8_drawHat_17 (by decide) (fun _ => ?_) (fun c => absurd (by decide) c)
  exact z_vret () hx hb hr hlocks hK hP hD hS hAe hQ rfl trivial dX8_drawHat_55
set_option maxHeartbeats 4000000 in
set_option maxRecDepth 100000 in
theorem c_X8_hatCounts_81 (l : Launch) (dC : Nat → ClassId) (dI : Nat → Nat → Nat) (cB cI cJ cZ cP cQ : ClassId) (ad : Nat → Nat) (sz : Nat) (p1 : Int32) (p2 : Int32) : Met l yX8_hatCounts wsX8_hatCounts ({ frames := 3, cells := 0, slots := 0, locals := 68 } : Room) (zPc [.ref (ad 0), .int p1, .int p2, .long (-9000000000000000000)] (dC, dI) (zT cB cI cJ cZ cP cQ) [(ad 0, .inr (8, xf0 ad)), (ad 38, .inr (6, xf38 ad))] sz [] []) (va_Qi (fun r _ => (fun r => r = 0) r) (zB (dC, dI) (zT cB cI cJ cZ cP cQ) (fun _ : Unit => [(ad 0, .inr (8, xf0 ad)), (ad 38, .inr (6, xf38 ad))]) [(ad 0, .inr (8, xf0 ad)), (ad 38, .inr (6, xf38 ad))] sz) (va_A [(ad 0, .inr (8, xf0 ad)), (ad 38, .inr (6, xf38 ad))] sz)) 0 0 (va_A [(ad 0, .inr (8, xf0 ad)), (ad 38, .inr (6, xf38 ad))] sz) := by
  refine z_enter (cc := cX8_hatCounts) (maxL := 7) (ret := (some .boolean)) (by decide) rfl (Nat.le_of_ble_eq_true rfl) ?_
  intro p e s m below meth c A ls Q H locs hx hb hr hml hown hts hlocks hin hK hP hD hA hX hS hAe hQ hl
  have hown : s.vm.findClass RX8 = some m.cls := hown
  have hi8 : ∀ w ∈ wsX80, w ∈ wsX8_hatCounts := fun w h => List.mem_cons_of_mem _ (List.mem_append_left _ (List.mem_append_right _ h))
  have hk0 := hts (.fieldLink RX8 46 "MonthPush" "split" "LMonthPush$Split;") (by decide +kernel)
  have hk1 := hts (.constantLong RX8 282 (-9000000000000000000)) (by decide +kernel)
  have hl : lv_has ls 7 [(0, .ref (ad 0)), (1, .int p1), (2, .int p2), (3, .long (-9000000000000000000))] := hl
  refine lv_aload_n hx hb dX8_hatCounts_0 rfl (lv_at hl 0 rfl) ?_
  refine va_get (D := (dC, dI)) (ci := 8) (v := .ref (ad 38)) (C := RX8) (T := TX8) (N := 10) hx hb hts hi8 hown hK hP 0 rfl rfl 6 (by decide) hk0 (fun _ h9 => h9) rfl dX8_hatCounts_1 ?_
  refine z_finl (w' := fun (u1 : Unit) => [(ad 0, .inr (8, xf0 ad)), (ad 38, .inr (6, xf38 ad))]) (va_runV (As := []) (rest := []) ⟨hx, hb, hml, hown, hts⟩ (c_X6_byMoved_57 l dC dI cB cI cJ cZ cP cQ ad H.size) (cwV 0 hts gX8_hatCounts_X6_byMoved rfl rfl rfl (by decide +kernel) ⟨Nat.le_of_ble_eq_true rfl, Nat.le_of_ble_eq_true rfl⟩) (z_pV (ci := 6) hK hP hD zX_nil [1] (by decide) rfl rfl 1 rfl) rfl rfl hl.1 rfl (lv_room (Nat.le_of_ble_eq_true rfl)) dX8_hatCounts_4 ⟨Nat.le_of_ble_eq_true rfl, Nat.le_of_ble_eq_true rfl⟩) hP hD hS hA [1] [0] [0, 1] rfl rfl (by decide) (by decide) (fun _ => rfl) (by decide) (fun r2 u1 H locs hp3 hP hD hS => ?_)
  have hP : va_P (dC, dI) vwCl [(ad 0, .inr (8, xf0 ad)), (ad 38, .inr (6, xf38 ad))] H := hP
  have hD : va_D A [(ad 0, .inr (8, xf0 ad)), (ad 38, .inr (6, xf38 ad))] := hD
  refine W.widen (k := 0) (n := 0) (by decide) (by decide) ?_
  obtain rfl : r2 = (-9000000000000000000) := hp3
  refine lv_lstore (lv' := [(5, .long (-9000000000000000000)), (0, .ref (ad 0)), (1, .int p1), (2, .int p2), (3, .long (-9000000000000000000))]) hx hb dX8_hatCounts_7 hl (by decide) rfl (fun ls hl => ?_)
  refine lv_lload hx hb dX8_hatCounts_9 (lv_at hl 0 rfl) ?_
  refine lv_ldc2 hx hb hown hk1 dX8_hatCounts_11 ?_
  refine W.lcmp hx hb dX8_hatCounts_14 ?_
  refine z_topi (y := 0) (by decide +kernel) ?_
  refine lv_if_ne (tgt := 20) hx hb dX8_hatCounts_15 (by decide) (fun c => absurd (by decide) c) (fun _ => ?_)
  refine lv_iconst (v := 0) hx hb dX8_hatCounts_18 (by decide) ?_
  exact z_zret () hx hb hr hlocks hK hP hD hS hAe hQ rfl rfl (by decide) dX8_hatCounts_19
set_option maxHeartbeats 4000000 in
set_option maxRecDepth 100000 in
theorem c_X8_hats_81 (l : Launch) (dC : Nat → ClassId) (dI : Nat → Nat → Nat) (cB cI cJ cZ cP cQ : ClassId) (ad : Nat → Nat) (sz : Nat) (p1 : Int32) (p2 : Int32) (p3 : Int32) (p4 : Int32) : Met l yX8_hats wsX8_hats ({ frames := 4, cells := 0, slots := 0, locals := 94 } : Room) (zPc [.ref (ad 0), .int p1, .int p2, .int p3, .int p4] (dC, dI) (zT cB cI cJ cZ cP cQ) [(ad 0, .inr (8, xf0 ad)), (ad 23, .inr (5, xf23 ad)), (ad 37, .inr (0, xf37 ad)), (ad 38, .inr (6, xf38 ad))] sz [] []) (va_Qi (fun r _ => (fun r => (r = (-2) ∧ p1.toInt < 0) ∨ (r = (-2) ∧ 0 ≤ p1.toInt ∧ 2000000000 < p1.toInt) ∨ (r = (-2) ∧ 0 ≤ p1.toInt ∧ p1.toInt ≤ 2000000000 ∧ p2.toInt < 1) ∨ (r = (-2) ∧ 0 ≤ p1.toInt ∧ p1.toInt ≤ 2000000000 ∧ 1 ≤ p2.toInt ∧ 40 < p2.toInt) ∨ (r = (-2) ∧ 0 ≤ p1.toInt ∧ p1.toInt ≤ 2000000000 ∧ 1 ≤ p2.toInt ∧ p2.toInt ≤ 40 ∧ p3.toInt < 1) ∨ (r = (-2) ∧ 0 ≤ p1.toInt ∧ p1.toInt ≤ 2000000000 ∧ 1 ≤ p2.toInt ∧ p2.toInt ≤ 40 ∧ 1 ≤ p3.toInt ∧ 10 < p3.toInt) ∨ (r = (-2) ∧ 0 ≤ p1.toInt ∧ p1.toInt ≤ 2000000000 ∧ 1 ≤ p2.toInt ∧ p2.toInt ≤ 40 ∧ 1 ≤ p3.toInt ∧ p3.toInt ≤ 10 ∧ p4.toInt < 0) ∨ (r = (-2) ∧ 0 ≤ p1.toInt ∧ p1.toInt ≤ 2000000000 ∧ 1 ≤ p2.toInt ∧ p2.toInt ≤ 40 ∧ 1 ≤ p3.toInt ∧ p3.toInt ≤ 10 ∧ 0 ≤ p4.toInt ∧ 2 < p4.toInt) ∨ (r = 0 ∧ 0 ≤ p1.toInt ∧ p1.toInt ≤ 2000000000 ∧ 1 ≤ p2.toInt ∧ p2.toInt ≤ 40 ∧ 1 ≤ p3.toInt ∧ p3.toInt ≤ 10 ∧ 0 ≤ p4.toInt ∧ p4.toInt ≤ 2 ∧ ¬ p4.toInt = 1) ∨ (r = (-2000000000) ∧ 0 ≤ p1.toInt ∧ p1.toInt ≤ 2000000000 ∧ 1 ≤ p2.toInt ∧ p2.toInt ≤ 40 ∧ 1 ≤ p3.toInt ∧ p3.toInt ≤ 10 ∧ 0 ≤ p4.toInt ∧ p4.toInt ≤ 2 ∧ p4.toInt = 1)) r) (zB (dC, dI) (zT cB cI cJ cZ cP cQ) (fun _ : Unit => []) [(ad 0, .inr (8, xf0 ad)), (ad 23, .inr (5, xf23 ad)), (ad 37, .inr (0, xf37 ad)), (ad 38, .inr (6, xf38 ad))] sz) (va_A [(ad 0, .inr (8, xf0 ad)), (ad 23, .inr (5, xf23 ad)), (ad 37, .inr (0, xf37 ad)), (ad 38, .inr (6, xf38 ad))] sz)) 0 0 (va_A [(ad 0, .inr (8, xf0 ad)), (ad 23, .inr (5, xf23 ad)), (ad 37, .inr (0, xf37 ad)), (ad 38, .inr (6, xf38 ad))] sz) := by
  refine z_enter (cc := cX8_hats) (maxL := 9) (ret := (some .int)) (by decide) rfl (Nat.le_of_ble_eq_true rfl) ?_
  intro p e s m below meth c A ls Q H locs hx hb hr hml hown hts hlocks hin hK hP hD hA hX hS hAe hQ hl
  have hown : s.vm.findClass RX8 = some m.cls := hown
  have hi8 : ∀ w ∈ wsX80, w ∈ wsX8_hats := fun w h => List.mem_cons_of_mem _ (List.mem_append_left _ (List.mem_append_left _ (List.mem_append_left _ (List.mem_append_right _ h))))
  have hk0 := hts (.fieldLink RX8 39 "MonthPush" "draws" "LMonthPush$Draws;") (by decide +kernel)
  have hk1 := hts (.constantLong RX8 282 (-9000000000000000000)) (by decide +kernel)
  have hk2 := hts (.constant RX8 214 (-2000000000)) (by decide +kernel)
  have hl : lv_has ls 9 [(0, .ref (ad 0)), (1, .int p1), (2, .int p2), (3, .int p3), (4, .int p4)] := hl
  refine lv_iload_n hx hb dX8_hats_0 rfl (lv_at hl 1 rfl) ?_
  refine z_fini (w' := fun (u1 : Unit) => [(ad 0, .inr (8, xf0 ad)), (ad 23, .inr (5, xf23 ad)), (ad 37, .inr (0, xf37 ad)), (ad 38, .inr (6, xf38 ad))]) (va_runS (As := [.int p1]) (rest := []) ⟨hx, hb, hml, hown, hts⟩ (c_X8_isSeed_32 l dC dI cB cI cJ cZ cP cQ H.size p1) (va_cwS 1 hts gX8_hats_X8_isSeed rfl rfl rfl (by decide +kernel) ⟨Nat.le_of_ble_eq_true rfl, Nat.le_of_ble_eq_true rfl⟩) (z_pS hK hP hD zX_nil [] (by decide) rfl) rfl rfl hl.1 rfl (lv_room (Nat.le_of_ble_eq_true rfl)) dX8_hats_1 ⟨Nat.le_of_ble_eq_true rfl, Nat.le_of_ble_eq_true rfl⟩) hP hD hS hA [] [0, 1, 2, 3] [0, 1, 2, 3] rfl rfl (by decide) (by decide) (fun _ => rfl) (by decide) (fun r2 u1 H locs hp3 hP hD hS => ?_)
  have hP : va_P (dC, dI) vwCl [(ad 0, .inr (8, xf0 ad)), (ad 23, .inr (5, xf23 ad)), (ad 37, .inr (0, xf37 ad)), (ad 38, .inr (6, xf38 ad))] H := hP
  have hD : va_D A [(ad 0, .inr (8, xf0 ad)), (ad 23, .inr (5, xf23 ad)), (ad 37, .inr (0, xf37 ad)), (ad 38, .inr (6, xf38 ad))] := hD
  refine W.widen (k := 0) (n := 0) (by decide) (by decide) ?_
  rcases hp3 with ⟨rfl, f4⟩ | ⟨rfl, f5, f6⟩ | ⟨rfl, f7, f8⟩
  · refine lv_if_eq (tgt := 17) hx hb dX8_hats_4 (by decide) (fun _ => ?_) (fun c => absurd (by decide) c)
    refine lv_bipush (v := (-2)) hx hb dX8_hats_17 (by decide) ?_
    have hP9 := hP.sub (ws' := []) [] rfl
    have hD9 := hD.sub (ws' := []) [] (by decide) rfl
    exact z_iret () hx hb hr hlocks hK hP9 hD9 hS hAe hQ rfl (Or.inl (⟨rfl, f4⟩)) dX8_hats_19
  · refine lv_if_eq (tgt := 17) hx hb dX8_hats_4 (by decide) (fun _ => ?_) (fun c => absurd (by decide) c)
    refine lv_bipush (v := (-2)) hx hb dX8_hats_17 (by decide) ?_
    have hP9 := hP.sub (ws' := []) [] rfl
    have hD9 := hD.sub (ws' := []) [] (by decide) rfl
    exact z_iret () hx hb hr hlocks hK hP9 hD9 hS hAe hQ rfl (Or.inr (Or.inl ⟨rfl, f5, f6⟩)) dX8_hats_19
  · refine lv_if_eq (tgt := 17) hx hb dX8_hats_4 (by decide) (fun c => absurd c (by decide)) (fun _ => ?_)
    refine lv_iload_n hx hb dX8_hats_7 rfl (lv_at hl 2 rfl) ?_
    refine lv_iconst (v := 1) hx hb dX8_hats_8 (by decide) ?_
    refine lv_bipush (v := 40) hx hb dX8_hats_9 (by decide) ?_
    refine z_fini (w' := fun (u9 : Unit) => [(ad 0, .inr (8, xf0 ad)), (ad 23, .inr (5, xf23 ad)), (ad 37, .inr (0, xf37 ad)), (ad 38, .inr (6, xf38 ad))]) (va_runS (As := [.int p2, .int 1, .int 40]) (rest := []) ⟨hx, hb, hml, hown, hts⟩ (c_X8_within_77 l dC dI cB cI cJ cZ cP cQ H.size p2) (va_cwS 3 hts gX8_hats_X8_within rfl rfl rfl (by decide +kernel) ⟨Nat.le_of_ble_eq_true rfl, Nat.le_of_ble_eq_true rfl⟩) (z_pS hK hP hD zX_nil [] (by decide) rfl) rfl rfl hl.1 rfl (lv_room (Nat.le_of_ble_eq_true rfl)) dX8_hats_11 ⟨Nat.le_of_ble_eq_true rfl, Nat.le_of_ble_eq_true rfl⟩) hP hD hS hA [] [0, 1, 2, 3] [0, 1, 2, 3] rfl rfl (by decide) (by decide) (fun _ => rfl) (by decide) (fun r10 u9 H locs hp11 hP hD hS => ?_)
    have hP : va_P (dC, dI) vwCl [(ad 0, .inr (8, xf0 ad)), (ad 23, .inr (5, xf23 ad)), (ad 37, .inr (0, xf37 ad)), (ad 38, .inr (6, xf38 ad))] H := hP
    have hD : va_D A [(ad 0, .inr (8, xf0 ad)), (ad 23, .inr (5, xf23 ad)), (ad 37, .inr (0, xf37 ad)), (ad 38, .inr (6, xf38 ad))] := hD
    refine W.widen (k := 0) (n := 0) (by decide) (by decide) ?_
    rcases hp11 with ⟨rfl, f12⟩ | ⟨rfl, f13, f14⟩ | ⟨rfl, f15, f16⟩
    · refine lv_if_ne (tgt := 20) hx hb dX8_hats_14 (by decide) (fun c => absurd (by decide) c) (fun _ => ?_)
      refine lv_bipush (v := (-2)) hx hb dX8_hats_17 (by decide) ?_
      have hP9 := hP.sub (ws' := []) [] rfl
      have hD9 := hD.sub (ws' := []) [] (by decide) rfl
      exact z_iret () hx hb hr hlocks hK hP9 hD9 hS hAe hQ rfl (Or.inr (Or.inr (Or.inl ⟨rfl, f7, f8, f12⟩))) dX8_hats_19
    · refine lv_if_ne (tgt := 20) hx hb dX8_hats_14 (by decide) (fun c => absurd (by decide) c) (fun _ => ?_)
      refine lv_bipush (v := (-2)) hx hb dX8_hats_17 (by decide) ?_
      have hP9 := hP.sub (ws' := []) [] rfl
      have hD9 := hD.sub (ws' := []) [] (by decide) rfl
      exact z_iret () hx hb hr hlocks hK hP9 hD9 hS hAe hQ rfl (Or.inr (Or.inr (Or.inr (Or.inl ⟨rfl, f7, f8, f13, f14⟩)))) dX8_hats_19
    · refine lv_if_ne (tgt := 20) hx hb dX8_hats_14 (by decide) (fun _ => ?_) (fun c => absurd c (by decide))
      refine lv_iload_n hx hb dX8_hats_20 rfl (lv_at hl 3 rfl) ?_
      refine lv_iconst (v := 1) hx hb dX8_hats_21 (by decide) ?_
      refine lv_bipush (v := 10) hx hb dX8_hats_22 (by decide) ?_
      refine z_fini (w' := fun (u17 : Unit) => [(ad 0, .inr (8, xf0 ad)), (ad 23, .inr (5, xf23 ad)), (ad 37, .inr (0, xf37 ad)), (ad 38, .inr (6, xf38 ad))]) (va_runS (As := [.int p3, .int 1, .int 10]) (rest := []) ⟨hx, hb, hml, hown, hts⟩ (c_X8_within_71 l dC dI cB cI cJ cZ cP cQ H.size p3) (va_cwS 3 hts gX8_hats_X8_within rfl rfl rfl (by decide +kernel) ⟨Nat.le_of_ble_eq_true rfl, Nat.le_of_ble_eq_true rfl⟩) (z_pS hK hP hD zX_nil [] (by decide) rfl) rfl rfl hl.1 rfl (lv_room (Nat.le_of_ble_eq_true rfl)) dX8_hats_24 ⟨Nat.le_of_ble_eq_true rfl, Nat.le_of_ble_eq_true rfl⟩) hP hD hS hA [] [0, 1, 2, 3] [0, 1, 2, 3] rfl rfl (by decide) (by decide) (fun _ => rfl) (by decide) (fun r18 u17 H locs hp19 hP hD hS => ?_)
      have hP : va_P (dC, dI) vwCl [(ad 0, .inr (8, xf0 ad)), (ad 23, .inr (5, xf23 ad)), (ad 37, .inr (0, xf37 ad)), (ad 38, .inr (6, xf38 ad))] H := hP
      have hD : va_D A [(ad 0, .inr (8, xf0 ad)), (ad 23, .inr (5, xf23 ad)), (ad 37, .inr (0, xf37 ad)), (ad 38, .inr (6, xf38 ad))] := hD
      refine W.widen (k := 0) (n := 0) (by decide) (by decide) ?_
      rcases hp19 with ⟨rfl, f20⟩ | ⟨rfl, f21, f22⟩ | ⟨rfl, f23, f24⟩
      · refine lv_if_eq (tgt := 40) hx hb dX8_hats_27 (by decide) (fun _ => ?_) (fun c => absurd (by decide) c)
        refine lv_bipush (v := (-2)) hx hb dX8_hats_40 (by decide) ?_
        have hP9 := hP.sub (ws' := []) [] rfl
        have hD9 := hD.sub (ws' := []) [] (by decide) rfl
        exact z_iret () hx hb hr hlocks hK hP9 hD9 hS hAe hQ rfl (Or.inr (Or.inr (Or.inr (Or.inr (Or.inl ⟨rfl, f7, f8, f15, f16, f20⟩))))) dX8_hats_42
      · refine lv_if_eq (tgt := 40) hx hb dX8_hats_27 (by decide) (fun _ => ?_) (fun c => absurd (by decide) c)
        refine lv_bipush (v := (-2)) hx hb dX8_hats_40 (by decide) ?_
        have hP9 := hP.sub (ws' := []) [] rfl
        have hD9 := hD.sub (ws' := []) [] (by decide) rfl
        exact z_iret () hx hb hr hlocks hK hP9 hD9 hS hAe hQ rfl (Or.inr (Or.inr (Or.inr (Or.inr (Or.inr (Or.inl ⟨rfl, f7, f8, f15, f16, f21, f22⟩)))))) dX8_hats_42
      · refine lv_if_eq (tgt := 40) hx hb dX8_hats_27 (by decide) (fun c => absurd c (by decide)) (fun _ => ?_)
        refine lv_iload hx hb dX8_hats_30 (lv_at hl 4 rfl) ?_
        refine lv_iconst (v := 0) hx hb dX8_hats_32 (by decide) ?_
        refine lv_iconst (v := 2) hx hb dX8_hats_33 (by decide) ?_
        refine z_fini (w' := fun (u25 : Unit) => [(ad 0, .inr (8, xf0 ad)), (ad 23, .inr (5, xf23 ad)), (ad 37, .inr (0, xf37 ad)), (ad 38, .inr (6, xf38 ad))]) (va_runS (As := [.int p4, .int 0, .int 2]) (rest := []) ⟨hx, hb, hml, hown, hts⟩ (c_X8_within_78 l dC dI cB cI cJ cZ cP cQ H.size p4) (va_cwS 3 hts gX8_hats_X8_within rfl rfl rfl (by decide +kernel) ⟨Nat.le_of_ble_eq_true rfl, Nat.le_of_ble_eq_true rfl⟩) (z_pS hK hP hD zX_nil [] (by decide) rfl) rfl rfl hl.1 rfl (lv_room (Nat.le_of_ble_eq_true rfl)) dX8_hats_34 ⟨Nat.le_of_ble_eq_true rfl, Nat.le_of_ble_eq_true rfl⟩) hP hD hS hA [] [0, 1, 2, 3] [0, 1, 2, 3] rfl rfl (by decide) (by decide) (fun _ => rfl) (by decide) (fun r26 u25 H locs hp27 hP hD hS => ?_)
        have hP : va_P (dC, dI) vwCl [(ad 0, .inr (8, xf0 ad)), (ad 23, .inr (5, xf23 ad)), (ad 37, .inr (0, xf37 ad)), (ad 38, .inr (6, xf38 ad))] H := hP
        have hD : va_D A [(ad 0, .inr (8, xf0 ad)), (ad 23, .inr (5, xf23 ad)), (ad 37, .inr (0, xf37 ad)), (ad 38, .inr (6, xf38 ad))] := hD
        refine W.widen (k := 0) (n := 0) (by decide) (by decide) ?_
        rcases hp27 with ⟨rfl, f28⟩ | ⟨rfl, f29, f30⟩ | ⟨rfl, f31, f32⟩
        · refine lv_if_ne (tgt := 43) hx hb dX8_hats_37 (by decide) (fun c => absurd (by decide) c) (fun _ => ?_)
          refine lv_bipush (v := (-2)) hx hb dX8_hats_40 (by decide) ?_
          have hP9 := hP.sub (ws' := []) [] rfl
          have hD9 := hD.sub (ws' := []) [] (by decide) rfl
          exact z_iret () hx hb hr hlocks hK hP9 hD9 hS hAe hQ rfl (Or.inr (Or.inr (Or.inr (Or.inr (Or.inr (Or.inr (Or.inl ⟨rfl, f7, f8, f15, f16, f23, f24, f28⟩))))))) dX8_hats_42
        · refine lv_if_ne (tgt := 43) hx hb dX8_hats_37 (by decide) (fun c => absurd (by decide) c) (fun _ => ?_)
          refine lv_bipush (v := (-2)) hx hb dX8_hats_40 (by decide) ?_
          have hP9 := hP.sub (ws' := []) [] rfl
          have hD9 := hD.sub (ws' := []) [] (by decide) rfl
          exact z_iret () hx hb hr hlocks hK hP9 hD9 hS hAe hQ rfl (Or.inr (Or.inr (Or.inr (Or.inr (Or.inr (Or.inr (Or.inr (Or.inl ⟨rfl, f7, f8, f15, f16, f23, f24, f29, f30⟩)))))))) dX8_hats_42
        · refine lv_if_ne (tgt := 43) hx hb dX8_hats_37 (by decide) (fun _ => ?_) (fun c => absurd c (by decide))
          refine lv_aload_n hx hb dX8_hats_43 rfl (lv_at hl 0 rfl) ?_
          refine z_finl (w' := fun (u33 : Unit) => [(ad 0, .inr (8, xf0 ad)), (ad 23, .inr (5, xf23 ad)), (ad 37, .inr (0, xf37 ad)), (ad 38, .inr (6, xf38 ad))]) (va_runV (As := []) (rest := []) ⟨hx, hb, hml, hown, hts⟩ (c_X8_plainOf_48 l dC dI cB cI cJ cZ cP cQ ad H.size) (cwV 0 hts gX8_hats_X8_plainOf rfl rfl rfl (by decide +kernel) ⟨Nat.le_of_ble_eq_true rfl, Nat.le_of_ble_eq_true rfl⟩) (z_pV (ci := 8) hK hP hD zX_nil [0, 1, 3] (by decide) rfl rfl 0 rfl) rfl rfl hl.1 rfl (lv_room (Nat.le_of_ble_eq_true rfl)) dX8_hats_44 ⟨Nat.le_of_ble_eq_true rfl, Nat.le_of_ble_eq_true rfl⟩) hP hD hS hA [0, 1, 3] [2] [1, 2, 0, 3] rfl rfl (by decide) (by decide) (fun _ => rfl) (by decide) (fun r34 u33 H locs hp35 hP hD hS => ?_)
          have hP : va_P (dC, dI) vwCl [(ad 0, .inr (8, xf0 ad)), (ad 23, .inr (5, xf23 ad)), (ad 37, .inr (0, xf37 ad)), (ad 38, .inr (6, xf38 ad))] H := hP
          have hD : va_D A [(ad 0, .inr (8, xf0 ad)), (ad 23, .inr (5, xf23 ad)), (ad 37, .inr (0, xf37 ad)), (ad 38, .inr (6, xf38 ad))] := hD
          refine W.widen (k := 0) (n := 0) (by decide) (by decide) ?_
          obtain rfl : r34 = (-9000000000000000000) := hp35
          refine lv_lstore (lv' := [(5, .long (-9000000000000000000)), (0, .ref (ad 0)), (1, .int p1), (2, .int p2), (3, .int p3), (4, .int p4)]) hx hb dX8_hats_47 hl (by decide) rfl (fun ls hl => ?_)
          refine lv_iload hx hb dX8_hats_49 (lv_at hl 5 rfl) ?_
          refine lv_iconst (v := 1) hx hb dX8_hats_51 (by decide) ?_
          refine lv_icmp_ne (tgt := 67) hx hb dX8_hats_52 (by decide) (fun c_36 => ?_) (fun c_36 => ?_)
          · have f37 : ¬ p4.toInt = 1 := z_ne rfl (by decide) c_36
            refine lv_aload_n hx hb dX8_hats_67 rfl (lv_at hl 1 rfl) ?_
            refine va_get (D := (dC, dI)) (ci := 8) (v := .ref (ad 37)) (C := RX8) (T := TX8) (N := 10) hx hb hts hi8 hown hK hP 0 rfl rfl 5 (by decide) hk0 (fun _ h9 => h9) rfl dX8_hats_68 ?_
            refine lv_iload_n hx hb dX8_hats_71 rfl (lv_at hl 2 rfl) ?_
            refine z_finv (w' := fun (u38 : Unit) => [(ad 0, .inr (8, xf0 ad)), (ad 23, .inr (5, xf23 ad)), (ad 37, .inr (0, ((xf37 ad).set 0 (.long p1.toInt64)))), (ad 38, .inr (6, xf38 ad))]) (va_runV (As := [.int p1]) (rest := []) ⟨hx, hb, hml, hown, hts⟩ (c_X0_from_79 l dC dI cB cI cJ cZ cP cQ ad H.size p1) (cwV 1 hts gX8_hats_X0_from rfl rfl rfl (by decide +kernel) ⟨Nat.le_of_ble_eq_true rfl, Nat.le_of_ble_eq_true rfl⟩) (z_pV (ci := 0) hK hP hD zX_nil [2] (by decide) rfl rfl 2 rfl) rfl rfl hl.1 rfl (lv_room (Nat.le_of_ble_eq_true rfl)) dX8_hats_72 ⟨Nat.le_of_ble_eq_true rfl, Nat.le_of_ble_eq_true rfl⟩) hP hD hS hA [2] [0, 1, 3] [0, 1, 3, 2] rfl rfl (by decide) (by decide) (fun _ => rfl) (by decide) (fun u38 H locs hp40 hP hD hS => ?_)
            have hP : va_P (dC, dI) vwCl [(ad 0, .inr (8, xf0 ad)), (ad 23, .inr (5, xf23 ad)), (ad 37, .inr (0, ((xf37 ad).set 0 (.long p1.toInt64)))), (ad 38, .inr (6, xf38 ad))] H := hP
            have hD : va_D A [(ad 0, .inr (8, xf0 ad)), (ad 23, .inr (5, xf23 ad)), (ad 37, .inr (0, ((xf37 ad).set 0 (.long p1.toInt64)))), (ad 38, .inr (6, xf38 ad))] := hD
            refine W.widen (k := 0) (n := 0) (by decide) (by decide) ?_
            refine lv_iconst (v := 0) hx hb dX8_hats_75 (by decide) ?_
            refine lv_istore (lv' := [(7, .int 0), (5, .long (-9000000000000000000)), (0, .ref (ad 0)), (1, .int p1), (2, .int p2), (3, .int p3), (4, .int p4)]) hx hb dX8_hats_76 hl (by decide) rfl (fun ls hl => ?_)
            refine lv_iconst (v := 0) hx hb dX8_hats_78 (by decide) ?_
            refine lv_istore (lv' := [(8, .int 0), (7, .int 0), (5, .long (-9000000000000000000)), (0, .ref (ad 0)), (1, .int p1), (2, .int p2), (3, .int p3), (4, .int p4)]) hx hb dX8_hats_79 hl (by decide) rfl (fun ls hl => ?_)
            obtain ⟨N41, hN42, rfl⟩ : ∃ N : Nat, N ≤ 40 ∧ p2 = nI N := z_toNat (by omega) (by omega)
            have hP : va_P (dC, dI) vwCl [(ad 0, .inr (8, xf0 ad)), (ad 23, .inr (5, xf23 ad)), (ad 37, .inr (0, ((xf37 ad).set 0 (.long p1.toInt64)))), (ad 38, .inr (6, xf38 ad))] H := by assumption
            have hD : va_D A [(ad 0, .inr (8, xf0 ad)), (ad 23, .inr (5, xf23 ad)), (ad 37, .inr (0, ((xf37 ad).set 0 (.long p1.toInt64)))), (ad 38, .inr (6, xf38 ad))] := by assumption
            have hlp43 : ∀ (n i : Nat), i + n = N41 → 0 ≤ i → ∀ (H : Heap) (locs : List Loc), va_P (dC, dI) vwCl [(ad 0, .inr (8, xf0 ad)), (ad 23, .inr (5, xf23 ad)), (ad 37, .inr (0, ((xf37 ad).set 0 (.long p1.toInt64)))), (ad 38, .inr (6, xf38 ad))] H → va_S A s.heap H locs → ∀ (ls : Array Slot), lv_has ls 9 [(8, .int (nI i)), (7, .int 0), (5, .long (-9000000000000000000)), (0, .ref (ad 0)), (1, .int p1), (2, .int (nI N41)), (3, .int p3), (4, .int p4)] → W p l e ({ frames := 4, cells := 0, slots := 0, locals := 94 } : Room) s m ([.ref (ad 0), .int p1, .int (nI N41), .int p3, .int p4] : List Value).toArray below meth c H locs 0 0 Q (F0 m 81 ls []) := by
              intro n
              induction n with
              | zero =>
                intro i hi hi0 H locs hP hS ls hl
                have hiN : i = N41 := by omega
                refine lv_iload hx hb dX8_hats_81 (lv_at hl 0 rfl) ?_
                refine lv_iload_n hx hb dX8_hats_83 rfl (lv_at hl 5 rfl) ?_
                refine lv_icmp_ge (tgt := 112) hx hb dX8_hats_84 (by decide) (fun _ => ?_) (fun c => absurd (show (i : Int) < (N41 : Int) from z_nle (nI_toInt (by omega)) (nI_toInt (by omega)) c) (by omega))
                refine lv_iload hx hb dX8_hats_112 (lv_at hl 1 rfl) ?_
                have hP9 := hP.sub (ws' := []) [] rfl
                have hD9 := hD.sub (ws' := []) [] (by decide) rfl
                exact z_iret () hx hb hr hlocks hK hP9 hD9 hS hAe hQ rfl (Or.inr (Or.inr (Or.inr (Or.inr (Or.inr (Or.inr (Or.inr (Or.inr (Or.inl ⟨rfl, f7, f8, f15, f16, f23, f24, f31, f32, f37⟩))))))))) dX8_hats_114
              | succ n ih =>
                intro i hi hi0 H locs hP hS ls hl
                have hlt : i < N41 := by omega
                refine lv_iload hx hb dX8_hats_81 (lv_at hl 0 rfl) ?_
                refine lv_iload_n hx hb dX8_hats_83 rfl (lv_at hl 5 rfl) ?_
                refine lv_icmp_ge (tgt := 112) hx hb dX8_hats_84 (by decide) (fun c => absurd (show (N41 : Int) ≤ (i : Int) from z_le (nI_toInt (by omega)) (nI_toInt (by omega)) c) (by omega)) (fun _ => ?_)
                refine lv_aload_n hx hb dX8_hats_87 rfl (lv_at hl 3 rfl) ?_
                refine z_finv (w' := fun (u44 : Unit) => [(ad 0, .inr (8, xf0 ad)), (ad 23, .inr (5, xf23 ad)), (ad 37, .inr (0, ((xf37 ad).set 0 (.long p1.toInt64)))), (ad 38, .inr (6, xf38 ad))]) (va_runV (As := []) (rest := []) ⟨hx, hb, hml, hown, hts⟩ (c_X8_drawHat_80 l dC dI cB cI cJ cZ cP cQ ad H.size) (cwV 0 hts gX8_hats_X8_drawHat rfl rfl rfl (by decide +kernel) ⟨Nat.le_of_ble_eq_true rfl, Nat.le_of_ble_eq_true rfl⟩) (z_pV (ci := 8) hK hP hD zX_nil [0, 1, 3] (by decide) rfl rfl 0 rfl) rfl rfl hl.1 rfl (lv_room (Nat.le_of_ble_eq_true rfl)) dX8_hats_88 ⟨Nat.le_of_ble_eq_true rfl, Nat.le_of_ble_eq_true rfl⟩) hP hD hS hA [0, 1, 3] [2] [1, 2, 0, 3] rfl rfl (by decide) (by decide) (fun _ => rfl) (by decide) (fun u44 H locs hp46 hP hD hS => ?_)
                have hP : va_P (dC, dI) vwCl [(ad 0, .inr (8, xf0 ad)), (ad 23, .inr (5, xf23 ad)), (ad 37, .inr (0, ((xf37 ad).set 0 (.long p1.toInt64)))), (ad 38, .inr (6, xf38 ad))] H := hP
                have hD : va_D A [(ad 0, .inr (8, xf0 ad)), (ad 23, .inr (5, xf23 ad)), (ad 37, .inr (0, ((xf37 ad).set 0 (.long p1.toInt64)))), (ad 38, .inr (6, xf38 ad))] := hD
                refine W.widen (k := 0) (n := 0) (by decide) (by decide) ?_
                refine lv_aload_n hx hb dX8_hats_91 rfl (lv_at hl 3 rfl) ?_
                refine lv_iload_n hx hb dX8_hats_92 rfl (lv_at hl 6 rfl) ?_
                refine lv_iload hx hb dX8_hats_93 (lv_at hl 7 rfl) ?_
                refine lv_lload hx hb dX8_hats_95 (lv_at hl 2 rfl) ?_
                refine z_fini (w' := fun (u47 : Unit) => [(ad 0, .inr (8, xf0 ad)), (ad 23, .inr (5, xf23 ad)), (ad 37, .inr (0, ((xf37 ad).set 0 (.long p1.toInt64)))), (ad 38, .inr (6, xf38 ad))]) (va_runV (As := [.int p3, .int p4, .long (-9000000000000000000)]) (rest := []) ⟨hx, hb, hml, hown, hts⟩ (c_X8_hatCounts_81 l dC dI cB cI cJ cZ cP cQ ad H.size p3 p4) (cwV 3 hts gX8_hats_X8_hatCounts rfl rfl rfl (by decide +kernel) ⟨Nat.le_of_ble_eq_true rfl, Nat.le_of_ble_eq_true rfl⟩) (z_pV (ci := 8) hK hP hD zX_nil [0, 3] (by decide) rfl rfl 0 rfl) rfl rfl hl.1 rfl (lv_room (Nat.le_of_ble_eq_true rfl)) dX8_hats_97 ⟨Nat.le_of_ble_eq_true rfl, Nat.le_of_ble_eq_true rfl⟩) hP hD hS hA [0, 3] [1, 2] [2, 0, 1, 3] rfl rfl (by decide) (by decide) (fun _ => rfl) (by decide) (fun r48 u47 H locs hp49 hP hD hS => ?_)
                have hP : va_P (dC, dI) vwCl [(ad 0, .inr (8, xf0 ad)), (ad 23, .inr (5, xf23 ad)), (ad 37, .inr (0, ((xf37 ad).set 0 (.long p1.toInt64)))), (ad 38, .inr (6, xf38 ad))] H := hP
                have hD : va_D A [(ad 0, .inr (8, xf0 ad)), (ad 23, .inr (5, xf23 ad)), (ad 37, .inr (0, ((xf37 ad).set 0 (.long p1.toInt64)))), (ad 38, .inr (6, xf38 ad))] := hD
                refine W.widen (k := 0) (n := 0) (by decide) (by decide) ?_
                obtain rfl : r48 = 0 := hp49
                refine lv_if_eq (tgt := 106) hx hb dX8_hats_100 (by decide) (fun _ => ?_) (fun c => absurd (by decide) c)
                refine lv_iinc (v := nI (i + 1)) (lv' := [(8, .int (nI (i + 1))), (7, .int 0), (5, .long (-9000000000000000000)), (0, .ref (ad 0)), (1, .int p1), (2, .int (nI N41)), (3, .int p3), (4, .int p4)]) hx hb dX8_hats_106 hl (k := 0) rfl (nI_1 i) (by decide) rfl (fun ls hl => ?_)
                refine lv_goto (tgt := 81) hx hb dX8_hats_109 (by decide) ?_
                exact ih (i + 1) (by omega) (by omega) _ _ hP hS ls (lv_sub hl [0, 1, 2, 3, 4, 5, 6, 7] rfl)
            exact hlp43 N41 0 (by omega) (by omega) _ _ hP hS ls (lv_sub hl [0, 1, 2, 3, 4, 5, 6, 7] rfl)
          · have f37 : p4.toInt = 1 := z_eq rfl (by decide) c_36
            refine lv_lload hx hb dX8_hats_55 (lv_at hl 0 rfl) ?_
            refine lv_ldc2 hx hb hown hk1 dX8_hats_57 ?_
            refine W.lcmp hx hb dX8_hats_60 ?_
            refine z_topi (y := 0) (by decide +kernel) ?_
            refine lv_if_ne (tgt := 67) hx hb dX8_hats_61 (by decide) (fun c => absurd (by decide) c) (fun _ => ?_)
            refine lv_ldc hx hb hown hk2 dX8_hats_64 ?_
            have hP9 := hP.sub (ws' := []) [] rfl
            have hD9 := hD.sub (ws' := []) [] (by decide) rfl
            exact z_iret () hx hb hr hlocks hK hP9 hD9 hS hAe hQ rfl (Or.inr (Or.inr (Or.inr (Or.inr (Or.inr (Or.inr (Or.inr (Or.inr (Or.inr ⟨rfl, f7, f8, f15, f16, f23, f24, f31, f32, f37⟩))))))))) dX8_hats_66
set_option maxHeartbeats 4000000 in
set_option maxRecDepth 100000 in
theorem c_X8_leak_82 (l : Launch) (dC : Nat → ClassId) (dI : Nat → Nat → Nat) (cB cI cJ cZ cP cQ : ClassId) (ad : Nat → Nat) (sz : Nat) (p1 : Int32) : Met l yX8_leak wsX8_leak ({ frames := 3, cells := 0, slots := 0, locals := 65 } : Room) (zPc [.ref (ad 0), .int p1] (dC, dI) (zT cB cI cJ cZ cP cQ) [(ad 0, .inr (8, xf0 ad)), (ad 23, .inr (5, xf23 ad)), (ad 38, .inr (6, xf38 ad))] sz [] []) (va_Ql (fun r _ => (fun r => (r = (-2000000000) ∧ p1.toInt < 1) ∨ (r = (-2000000000) ∧ 1 ≤ p1.toInt ∧ 4094 < p1.toInt) ∨ (r = (-2000000000) ∧ 1 ≤ p1.toInt ∧ p1.toInt ≤ 4094)) r) (zB (dC, dI) (zT cB cI cJ cZ cP cQ) (fun _ : Unit => []) [(ad 0, .inr (8, xf0 ad)), (ad 23, .inr (5, xf23 ad)), (ad 38, .inr (6, xf38 ad))] sz) (va_A [(ad 0, .inr (8, xf0 ad)), (ad 23, .inr (5, xf23 ad)), (ad 38, .inr (6, xf38 ad))] sz)) 0 0 (va_A [(ad 0, .inr (8, xf0 ad)), (ad 23, .inr (5, xf23 ad)), (ad 38, .inr (6, xf38 ad))] sz) := by
  refine z_enter (cc := cX8_leak) (maxL := 3) (ret := (some .long)) (by decide) rfl (Nat.le_of_ble_eq_true rfl) ?_
  intro p e s m below meth c A ls Q H locs hx hb hr hml hown hts hlocks hin hK hP hD hA hX hS hAe hQ hl
  have hown : s.vm.findClass RX8 = some m.cls := hown
  have hi6 : ∀ w ∈ wsX60, w ∈ wsX8_leak := fun w h => List.mem_cons_of_mem _ (List.mem_append_left _ (List.mem_append_right _ h))
  have hi8 : ∀ w ∈ wsX80, w ∈ wsX8_leak := fun w h => List.mem_cons_of_mem _ (List.mem_append_left _ (List.mem_append_left _ (List.mem_append_right _ h)))
  have hk0 := hts (.fieldLink RX8 29 "MonthPush" "all" "LMonthPush$Sheets;") (by decide +kernel)
  have hk1 := hts (.fieldLink RX8 244 "MonthPush$Split" "wage" "J") (by decide +kernel)
  have hk2 := hts (.fieldLink RX8 315 "MonthPush$Split" "otherWage" "J") (by decide +kernel)
  have hl : lv_has ls 3 [(0, .ref (ad 0)), (1, .int p1)] := hl
  refine lv_aload_n hx hb dX8_leak_0 rfl (lv_at hl 0 rfl) ?_
  refine lv_aload_n hx hb dX8_leak_1 rfl (lv_at hl 0 rfl) ?_
  refine va_get (D := (dC, dI)) (ci := 8) (v := .ref (ad 23)) (C := RX8) (T := TX8) (N := 10) hx hb hts hi8 hown hK hP 0 rfl rfl 3 (by decide) hk0 (fun _ h9 => h9) rfl dX8_leak_2 ?_
  refine lv_iload_n hx hb dX8_leak_5 rfl (lv_at hl 1 rfl) ?_
  refine z_finr (w' := fun (u1 : Unit) => [(ad 0, .inr (8, xf0 ad)), (ad 23, .inr (5, xf23 ad)), (ad 38, .inr (6, xf38 ad))]) (va_runV (As := [.ref (ad 23), .int p1]) (rest := []) ⟨hx, hb, hml, hown, hts⟩ (c_X8_divided_53 l dC dI cB cI cJ cZ cP cQ ad H.size p1) (cwV 2 hts gX8_leak_X8_divided rfl rfl rfl (by decide +kernel) ⟨Nat.le_of_ble_eq_true rfl, Nat.le_of_ble_eq_true rfl⟩) (z_pV (ci := 8) hK hP hD zX_nil [0, 1, 2] (by decide) rfl rfl 0 rfl) rfl rfl hl.1 rfl (lv_room (Nat.le_of_ble_eq_true rfl)) dX8_leak_6 ⟨Nat.le_of_ble_eq_true rfl, Nat.le_of_ble_eq_true rfl⟩) hP hD hS hA [0, 1, 2] [] [0, 1, 2] rfl rfl (by decide) (by decide) (fun _ => rfl) (by decide) (fun u1 H locs hp3 hP hD hS => ?_)
  have hP : va_P (dC, dI) vwCl [(ad 0, .inr (8, xf0 ad)), (ad 23, .inr (5, xf23 ad)), (ad 38, .inr (6, xf38 ad))] H := hP
  have hD : va_D A [(ad 0, .inr (8, xf0 ad)), (ad 23, .inr (5, xf23 ad)), (ad 38, .inr (6, xf38 ad))] := hD
  refine W.widen (k := 0) (n := 0) (by decide) (by decide) ?_
  rcases hp3 with f4 | ⟨f5, f6⟩ | ⟨f7, f8⟩
  · refine lv_astore_n (lv' := [(2, .ref (ad 38)), (0, .ref (ad 0)), (1, .int p1)]) hx hb dX8_leak_9 rfl hl (by decide) rfl (fun ls hl => ?_)
    refine lv_aload_n hx hb dX8_leak_10 rfl (lv_at hl 0 rfl) ?_
    refine lv_aload_n hx hb dX8_leak_11 rfl (lv_at hl 0 rfl) ?_
    refine va_get (D := (dC, dI)) (ci := 6) (v := .long 0) (C := RX6) (T := TX6) (N := 11) hx hb hts hi6 hown hK hP 2 rfl rfl 2 (by decide) hk1 (fun _ h9 => h9) rfl dX8_leak_12 ?_
    refine lv_aload_n hx hb dX8_leak_15 rfl (lv_at hl 0 rfl) ?_
    refine va_get (D := (dC, dI)) (ci := 6) (v := .long 0) (C := RX6) (T := TX6) (N := 11) hx hb hts hi6 hown hK hP 2 rfl rfl 6 (by decide) hk2 (fun _ h9 => h9) rfl dX8_leak_16 ?_
    refine z_finl (w' := fun (u9 : Unit) => [(ad 0, .inr (8, xf0 ad)), (ad 23, .inr (5, xf23 ad)), (ad 38, .inr (6, xf38 ad))]) (va_runV (As := [.long 0, .long 0]) (rest := []) ⟨hx, hb, hml, hown, hts⟩ (c_X6_meanGap_65 l dC dI cB cI cJ cZ cP cQ ad H.size) (cwV 2 hts gX8_leak_X6_meanGap rfl rfl rfl (by decide +kernel) ⟨Nat.le_of_ble_eq_true rfl, Nat.le_of_ble_eq_true rfl⟩) (z_pV (ci := 6) hK hP hD zX_nil [2] (by decide) rfl rfl 2 rfl) rfl rfl hl.1 rfl (lv_room (Nat.le_of_ble_eq_true rfl)) dX8_leak_19 ⟨Nat.le_of_ble_eq_true rfl, Nat.le_of_ble_eq_true rfl⟩) hP hD hS hA [2] [0, 1] [0, 1, 2] rfl rfl (by decide) (by decide) (fun _ => rfl) (by decide) (fun r10 u9 H locs hp11 hP hD hS => ?_)
    have hP : va_P (dC, dI) vwCl [(ad 0, .inr (8, xf0 ad)), (ad 23, .inr (5, xf23 ad)), (ad 38, .inr (6, xf38 ad))] H := hP
    have hD : va_D A [(ad 0, .inr (8, xf0 ad)), (ad 23, .inr (5, xf23 ad)), (ad 38, .inr (6, xf38 ad))] := hD
    refine W.widen (k := 0) (n := 0) (by decide) (by decide) ?_
    obtain rfl : r10 = (-9000000000000000000) := hp11
    refine z_finl (w' := fun (u12 : Unit) => [(ad 0, .inr (8, xf0 ad)), (ad 23, .inr (5, xf23 ad)), (ad 38, .inr (6, xf38 ad))]) (va_runS (As := [.long (-9000000000000000000)]) (rest := []) ⟨hx, hb, hml, hown, hts⟩ (c_X8_toFace_49 l dC dI cB cI cJ cZ cP cQ H.size) (va_cwS 1 hts gX8_leak_X8_toFace rfl rfl rfl (by decide +kernel) ⟨Nat.le_of_ble_eq_true rfl, Nat.le_of_ble_eq_true rfl⟩) (z_pS hK hP hD zX_nil [] (by decide) rfl) rfl rfl hl.1 rfl (lv_room (Nat.le_of_ble_eq_true rfl)) dX8_leak_22 ⟨Nat.le_of_ble_eq_true rfl, Nat.le_of_ble_eq_true rfl⟩) hP hD hS hA [] [0, 1, 2] [0, 1, 2] rfl rfl (by decide) (by decide) (fun _ => rfl) (by decide) (fun r13 u12 H locs hp14 hP hD hS => ?_)
    have hP : va_P (dC, dI) vwCl [(ad 0, .inr (8, xf0 ad)), (ad 23, .inr (5, xf23 ad)), (ad 38, .inr (6, xf38 ad))] H := hP
    have hD : va_D A [(ad 0, .inr (8, xf0 ad)), (ad 23, .inr (5, xf23 ad)), (ad 38, .inr (6, xf38 ad))] := hD
    refine W.widen (k := 0) (n := 0) (by decide) (by decide) ?_
    obtain rfl : r13 = (-2000000000) := hp14
    have hP9 := hP.sub (ws' := []) [] rfl
    have hD9 := hD.sub (ws' := []) [] (by decide) rfl
    exact z_lret () hx hb hr hlocks hK hP9 hD9 hS hAe hQ rfl (Or.inl (⟨rfl, f4⟩)) dX8_leak_25
  · refine lv_astore_n (lv' := [(2, .ref (ad 38)), (0, .ref (ad 0)), (1, .int p1)]) hx hb dX8_leak_9 rfl hl (by decide) rfl (fun ls hl => ?_)
    refine lv_aload_n hx hb dX8_leak_10 rfl (lv_at hl 0 rfl) ?_
    refine lv_aload_n hx hb dX8_leak_11 rfl (lv_at hl 0 rfl) ?_
    refine va_get (D := (dC, dI)) (ci := 6) (v := .long 0) (C := RX6) (T := TX6) (N := 11) hx hb hts hi6 hown hK hP 2 rfl rfl 2 (by decide) hk1 (fun _ h9 => h9) rfl dX8_leak_12 ?_
    refine lv_aload_n hx hb dX8_leak_15 rfl (lv_at hl 0 rfl) ?_
    refine va_get (D := (dC, dI)) (ci := 6) (v := .long 0) (C := RX6) (T := TX6) (N := 11) hx hb hts hi6 hown hK hP 2 rfl rfl 6 (by decide) hk2 (fun _ h9 => h9) rfl dX8_leak_16 ?_
    refine z_finl (w' := fun (u15 : Unit) => [(ad 0, .inr (8, xf0 ad)), (ad 23, .inr (5, xf23 ad)), (ad 38, .inr (6, xf38 ad))]) (va_runV (As := [.long 0, .long 0]) (rest := []) ⟨hx, hb, hml, hown, hts⟩ (c_X6_meanGap_65 l dC dI cB cI cJ cZ cP cQ ad H.size) (cwV 2 hts gX8_leak_X6_meanGap rfl rfl rfl (by decide +kernel) ⟨Nat.le_of_ble_eq_true rfl, Nat.le_of_ble_eq_true rfl⟩) (z_pV (ci := 6) hK hP hD zX_nil [2] (by decide) rfl rfl 2 rfl) rfl rfl hl.1 rfl (lv_room (Nat.le_of_ble_eq_true rfl)) dX8_leak_19 ⟨Nat.le_of_ble_eq_true rfl, Nat.le_of_ble_eq_true rfl⟩) hP hD hS hA [2] [0, 1] [0, 1, 2] rfl rfl (by decide) (by decide) (fun _ => rfl) (by decide) (fun r16 u15 H locs hp17 hP hD hS => ?_)
    have hP : va_P (dC, dI) vwCl [(ad 0, .inr (8, xf0 ad)), (ad 23, .inr (5, xf23 ad)), (ad 38, .inr (6, xf38 ad))] H := hP
    have hD : va_D A [(ad 0, .inr (8, xf0 ad)), (ad 23, .inr (5, xf23 ad)), (ad 38, .inr (6, xf38 ad))] := hD
    refine W.widen (k := 0) (n := 0) (by decide) (by decide) ?_
    obtain rfl : r16 = (-9000000000000000000) := hp17
    refine z_finl (w' := fun (u18 : Unit) => [(ad 0, .inr (8, xf0 ad)), (ad 23, .inr (5, xf23 ad)), (ad 38, .inr (6, xf38 ad))]) (va_runS (As := [.long (-9000000000000000000)]) (rest := []) ⟨hx, hb, hml, hown, hts⟩ (c_X8_toFace_49 l dC dI cB cI cJ cZ cP cQ H.size) (va_cwS 1 hts gX8_leak_X8_toFace rfl rfl rfl (by decide +kernel) ⟨Nat.le_of_ble_eq_true rfl, Nat.le_of_ble_eq_true rfl⟩) (z_pS hK hP hD zX_nil [] (by decide) rfl) rfl rfl hl.1 rfl (lv_room (Nat.le_of_ble_eq_true rfl)) dX8_leak_22 ⟨Nat.le_of_ble_eq_true rfl, Nat.le_of_ble_eq_true rfl⟩) hP hD hS hA [] [0, 1, 2] [0, 1, 2] rfl rfl (by decide) (by decide) (fun _ => rfl) (by decide) (fun r19 u18 H locs hp20 hP hD hS => ?_)
    have hP : va_P (dC, dI) vwCl [(ad 0, .inr (8, xf0 ad)), (ad 23, .inr (5, xf23 ad)), (ad 38, .inr (6, xf38 ad))] H := hP
    have hD : va_D A [(ad 0, .inr (8, xf0 ad)), (ad 23, .inr (5, xf23 ad)), (ad 38, .inr (6, xf38 ad))] := hD
    refine W.widen (k := 0) (n := 0) (by decide) (by decide) ?_
    obtain rfl : r19 = (-2000000000) := hp20
    have hP9 := hP.sub (ws' := []) [] rfl
    have hD9 := hD.sub (ws' := []) [] (by decide) rfl
    exact z_lret () hx hb hr hlocks hK hP9 hD9 hS hAe hQ rfl (Or.inr (Or.inl ⟨rfl, f5, f6⟩)) dX8_leak_25
  · refine lv_astore_n (lv' := [(2, .ref (ad 38)), (0, .ref (ad 0)), (1, .int p1)]) hx hb dX8_leak_9 rfl hl (by decide) rfl (fun ls hl => ?_)
    refine lv_aload_n hx hb dX8_leak_10 rfl (lv_at hl 0 rfl) ?_
    refine lv_aload_n hx hb dX8_leak_11 rfl (lv_at hl 0 rfl) ?_
    refine va_get (D := (dC, dI)) (ci := 6) (v := .long 0) (C := RX6) (T := TX6) (N := 11) hx hb hts hi6 hown hK hP 2 rfl rfl 2 (by decide) hk1 (fun _ h9 => h9) rfl dX8_leak_12 ?_
    refine lv_aload_n hx hb dX8_leak_15 rfl (lv_at hl 0 rfl) ?_
    refine va_get (D := (dC, dI)) (ci := 6) (v := .long 0) (C := RX6) (T := TX6) (N := 11) hx hb hts hi6 hown hK hP 2 rfl rfl 6 (by decide) hk2 (fun _ h9 => h9) rfl dX8_leak_16 ?_
    refine z_finl (w' := fun (u21 : Unit) => [(ad 0, .inr (8, xf0 ad)), (ad 23, .inr (5, xf23 ad)), (ad 38, .inr (6, xf38 ad))]) (va_runV (As := [.long 0, .long 0]) (rest := []) ⟨hx, hb, hml, hown, hts⟩ (c_X6_meanGap_65 l dC dI cB cI cJ cZ cP cQ ad H.size) (cwV 2 hts gX8_leak_X6_meanGap rfl rfl rfl (by decide +kernel) ⟨Nat.le_of_ble_eq_true rfl, Nat.le_of_ble_eq_true rfl⟩) (z_pV (ci := 6) hK hP hD zX_nil [2] (by decide) rfl rfl 2 rfl) rfl rfl hl.1 rfl (lv_room (Nat.le_of_ble_eq_true rfl)) dX8_leak_19 ⟨Nat.le_of_ble_eq_true rfl, Nat.le_of_ble_eq_true rfl⟩) hP hD hS hA [2] [0, 1] [0, 1, 2] rfl rfl (by decide) (by decide) (fun _ => rfl) (by decide) (fun r22 u21 H locs hp23 hP hD hS => ?_)
    have hP : va_P (dC, dI) vwCl [(ad 0, .inr (8, xf0 ad)), (ad 23, .inr (5, xf23 ad)), (ad 38, .inr (6, xf38 ad))] H := hP
    have hD : va_D A [(ad 0, .inr (8, xf0 ad)), (ad 23, .inr (5, xf23 ad)), (ad 38, .inr (6, xf38 ad))] := hD
    refine W.widen (k := 0) (n := 0) (by decide) (by decide) ?_
    obtain rfl : r22 = (-9000000000000000000) := hp23
    refine z_finl (w' := fun (u24 : Unit) => [(ad 0, .inr (8, xf0 ad)), (ad 23, .inr (5, xf23 ad)), (ad 38, .inr (6, xf38 ad))]) (va_runS (As := [.long (-9000000000000000000)]) (rest := []) ⟨hx, hb, hml, hown, hts⟩ (c_X8_toFace_49 l dC dI cB cI cJ cZ cP cQ H.size) (va_cwS 1 hts gX8_leak_X8_toFace rfl rfl rfl (by decide +kernel) ⟨Nat.le_of_ble_eq_true rfl, Nat.le_of_ble_eq_true rfl⟩) (z_pS hK hP hD zX_nil [] (by decide) rfl) rfl rfl hl.1 rfl (lv_room (Nat.le_of_ble_eq_true rfl)) dX8_leak_22 ⟨Nat.le_of_ble_eq_true rfl, Nat.le_of_ble_eq_true rfl⟩) hP hD hS hA [] [0, 1, 2] [0, 1, 2] rfl rfl (by decide) (by decide) (fun _ => rfl) (by decide) (fun r25 u24 H locs hp26 hP hD hS => ?_)
    have hP : va_P (dC, dI) vwCl [(ad 0, .inr (8, xf0 ad)), (ad 23, .inr (5, xf23 ad)), (ad 38, .inr (6, xf38 ad))] H := hP
    have hD : va_D A [(ad 0, .inr (8, xf0 ad)), (ad 23, .inr (5, xf23 ad)), (ad 38, .inr (6, xf38 ad))] := hD
    refine W.widen (k := 0) (n := 0) (by decide) (by decide) ?_
    obtain rfl : r25 = (-2000000000) := hp26
    have hP9 := hP.sub (ws' := []) [] rfl
    have hD9 := hD.sub (ws' := []) [] (by decide) rfl
    exact z_lret () hx hb hr hlocks hK hP9 hD9 hS hAe hQ rfl (Or.inr (Or.inr ⟨rfl, f7, f8⟩)) dX8_leak_25
set_option maxHeartbeats 4000000 in
set_option maxRecDepth 100000 in
theorem c_X8_within_84 (l : Launch) (dC : Nat → ClassId) (dI : Nat → Nat → Nat) (cB cI cJ cZ cP cQ : ClassId) (sz : Nat) (p0 : Int32) : Met l yX8_within wsX8_within ({ frames := 0, cells := 0, slots := 0, locals := 0 } : Room) (zPc [.int p0, .int (-9999999), .int 9999999] (dC, dI) (zT cB cI cJ cZ cP cQ) [] sz [] []) (va_Qi (fun r _ => (fun r => (r = 0 ∧ p0.toInt < (-9999999)) ∨ (r = 0 ∧ (-9999999) ≤ p0.toInt ∧ 9999999 < p0.toInt) ∨ (r = 1 ∧ (-9999999) ≤ p0.toInt ∧ p0.toInt ≤ 9999999)) r) (zB (dC, dI) (zT cB cI cJ cZ cP cQ) (fun _ : Unit => []) [] sz) (va_A [] sz)) 0 0 (va_A [] sz) := by
  refine z_enter (cc := cX8_within) (maxL := 3) (ret := (some .boolean)) (by decide) rfl (Nat.le_of_ble_eq_true rfl) ?_
  intro p e s m below meth c A ls Q H locs hx hb hr hml hown hts hlocks hin hK hP hD hA hX hS hAe hQ hl
  have hown : s.vm.findClass RX8 = some m.cls := hown
  have hl : lv_has ls 3 [(0, .int p0), (1, .int (-9999999)), (2, .int 9999999)] := hl
  refine lv_iload_n hx hb dX8_within_0 rfl (lv_at hl 0 rfl) ?_
  refine lv_iload_n hx hb dX8_within_1 rfl (lv_at hl 1 rfl) ?_
  refine lv_icmp_lt (tgt := 14) hx hb dX8_within_2 (by decide) (fun c_1 => ?_) (fun c_1 => ?_)
  · have f2 : p0.toInt < (-9999999) := z_lt rfl (by decide) c_1
    refine lv_iconst (v := 0) hx hb dX8_within_14 (by decide) ?_
    exact z_zret () hx hb hr hlocks hK hP hD hS hAe hQ rfl (Or.inl (⟨rfl, f2⟩)) (by decide) dX8_within_15
  · have f2 : (-9999999) ≤ p0.toInt := z_nlt rfl (by decide) c_1
    refine lv_iload_n hx hb dX8_within_5 rfl (lv_at hl 0 rfl) ?_
    refine lv_iload_n hx hb dX8_within_6 rfl (lv_at hl 2 rfl) ?_
    refine lv_icmp_gt (tgt := 14) hx hb dX8_within_7 (by decide) (fun c_3 => ?_) (fun c_3 => ?_)
    · have f4 : 9999999 < p0.toInt := z_lt (by decide) rfl c_3
      refine lv_iconst (v := 0) hx hb dX8_within_14 (by decide) ?_
      exact z_zret () hx hb hr hlocks hK hP hD hS hAe hQ rfl (Or.inr (Or.inl ⟨rfl, f2, f4⟩)) (by decide) dX8_within_15
    · have f4 : p0.toInt ≤ 9999999 := z_nlt (by decide) rfl c_3
      refine lv_iconst (v := 1) hx hb dX8_within_10 (by decide) ?_
      refine lv_goto (tgt := 15) hx hb dX8_within_11 (by decide) ?_
      exact z_zret () hx hb hr hlocks hK hP hD hS hAe hQ rfl (Or.inr (Or.inr ⟨rfl, f2, f4⟩)) (by decide) dX8_within_15
set_option maxHeartbeats 4000000 in
set_option maxRecDepth 100000 in
theorem c_X6_byMovedLess_85 (l : Launch) (dC : Nat → ClassId) (dI : Nat → Nat → Nat) (cB cI cJ cZ cP cQ : ClassId) (ad : Nat → Nat) (sz : Nat) (p1 : Int32) : Met l yX6_byMovedLess wsX6_byMovedLess ({ frames := 1, cells := 0, slots := 0, locals := 24 } : Room) (zPc [.ref (ad 38), .long p1.toInt64] (dC, dI) (zT cB cI cJ cZ cP cQ) [(ad 38, .inr (6, xf38 ad))] sz [] []) (va_Ql (fun r _ => (fun r => r = (-9000000000000000000)) r) (zB (dC, dI) (zT cB cI cJ cZ cP cQ) (fun _ : Unit => [(ad 38, .inr (6, xf38 ad))]) [(ad 38, .inr (6, xf38 ad))] sz) (va_A [(ad 38, .inr (6, xf38 ad))] sz)) 0 0 (va_A [(ad 38, .inr (6, xf38 ad))] sz) := by
  refine z_enter (cc := cX6_byMovedLess) (maxL := 5) (ret := (some .long)) (by decide) rfl (Nat.le_of_ble_eq_true rfl) ?_
  intro p e s m below meth c A ls Q H locs hx hb hr hml hown hts hlocks hin hK hP hD hA hX hS hAe hQ hl
  have hown : s.vm.findClass RX6 = some m.cls := hown
  have hi6 : ∀ w ∈ wsX60, w ∈ wsX6_byMovedLess := fun w h => List.mem_cons_of_mem _ (List.mem_append_right _ h)
  have hk0 := hts (.fieldLink RX6 15 "MonthPush$Split" "school" "J") (by decide +kernel)
  have hk1 := hts (.fieldLink RX6 27 "MonthPush$Split" "otherSchool" "J") (by decide +kernel)
  have hk2 := hts (.constantLong RX6 64 (-9000000000000000000)) (by decide +kernel)
  have hl : lv_has ls 5 [(0, .ref (ad 38)), (1, .long p1.toInt64)] := hl
  refine lv_aload_n hx hb dX6_byMovedLess_0 rfl (lv_at hl 0 rfl) ?_
  refine lv_aload_n hx hb dX6_byMovedLess_1 rfl (lv_at hl 0 rfl) ?_
  refine va_get (D := (dC, dI)) (ci := 6) (v := .long 0) (C := RX6) (T := TX6) (N := 11) hx hb hts hi6 hown hK hP 0 rfl rfl 1 (by decide) hk0 (fun _ h9 => h9) rfl dX6_byMovedLess_2 ?_
  refine lv_aload_n hx hb dX6_byMovedLess_5 rfl (lv_at hl 0 rfl) ?_
  refine va_get (D := (dC, dI)) (ci := 6) (v := .long 0) (C := RX6) (T := TX6) (N := 11) hx hb hts hi6 hown hK hP 0 rfl rfl 5 (by decide) hk1 (fun _ h9 => h9) rfl dX6_byMovedLess_6 ?_
  refine z_finl (w' := fun (u1 : Unit) => [(ad 38, .inr (6, xf38 ad))]) (va_runV (As := [.long 0, .long 0]) (rest := []) ⟨hx, hb, hml, hown, hts⟩ (c_X6_gapOf_56 l dC dI cB cI cJ cZ cP cQ ad H.size) (cwV 2 hts gX6_byMovedLess_X6_gapOf rfl rfl rfl (by decide +kernel) ⟨Nat.le_of_ble_eq_true rfl, Nat.le_of_ble_eq_true rfl⟩) (z_pV (ci := 6) hK hP hD zX_nil [0] (by decide) rfl rfl 0 rfl) rfl rfl hl.1 rfl (lv_room (Nat.le_of_ble_eq_true rfl)) dX6_byMovedLess_9 ⟨Nat.le_of_ble_eq_true rfl, Nat.le_of_ble_eq_true rfl⟩) hP hD hS hA [0] [] [0] rfl rfl (by decide) (by decide) (fun _ => rfl) (by decide) (fun r2 u1 H locs hp3 hP hD hS => ?_)
  have hP : va_P (dC, dI) vwCl [(ad 38, .inr (6, xf38 ad))] H := hP
  have hD : va_D A [(ad 38, .inr (6, xf38 ad))] := hD
  refine W.widen (k := 0) (n := 0) (by decide) (by decide) ?_
  obtain rfl : r2 = 0 := hp3
  refine lv_lstore_n (lv' := [(3, .long 0), (0, .ref (ad 38)), (1, .long p1.toInt64)]) hx hb dX6_byMovedLess_12 rfl hl (by decide) rfl (fun ls hl => ?_)
  refine lv_aload_n hx hb dX6_byMovedLess_13 rfl (lv_at hl 1 rfl) ?_
  refine z_fini (w' := fun (u4 : Unit) => [(ad 38, .inr (6, xf38 ad))]) (va_runV (As := []) (rest := []) ⟨hx, hb, hml, hown, hts⟩ (c_X6_hasBoth_57 l dC dI cB cI cJ cZ cP cQ ad H.size) (cwV 0 hts gX6_byMovedLess_X6_hasBoth rfl rfl rfl (by decide +kernel) ⟨Nat.le_of_ble_eq_true rfl, Nat.le_of_ble_eq_true rfl⟩) (z_pV (ci := 6) hK hP hD zX_nil [0] (by decide) rfl rfl 0 rfl) rfl rfl hl.1 rfl (lv_room (Nat.le_of_ble_eq_true rfl)) dX6_byMovedLess_14 ⟨Nat.le_of_ble_eq_true rfl, Nat.le_of_ble_eq_true rfl⟩) hP hD hS hA [0] [] [0] rfl rfl (by decide) (by decide) (fun _ => rfl) (by decide) (fun r5 u4 H locs hp6 hP hD hS => ?_)
  have hP : va_P (dC, dI) vwCl [(ad 38, .inr (6, xf38 ad))] H := hP
  have hD : va_D A [(ad 38, .inr (6, xf38 ad))] := hD
  refine W.widen (k := 0) (n := 0) (by decide) (by decide) ?_
  obtain rfl : r5 = 0 := hp6
  refine lv_if_eq (tgt := 26) hx hb dX6_byMovedLess_17 (by decide) (fun _ => ?_) (fun c => absurd (by decide) c)
  refine lv_ldc2 hx hb hown hk2 dX6_byMovedLess_26 ?_
  exact z_lret () hx hb hr hlocks hK hP hD hS hAe hQ rfl rfl dX6_byMovedLess_29
set_option maxHeartbeats 4000000 in
set_option maxRecDepth 100000 in
theorem c_X8_leaked_85 (l : Launch) (dC : Nat → ClassId) (dI : Nat → Nat → Nat) (cB cI cJ cZ cP cQ : ClassId) (ad : Nat → Nat) (sz : Nat) (p1 : Int32) (p2 : Int32) : Met l yX8_leaked wsX8_leaked ({ frames := 3, cells := 0, slots := 0, locals := 65 } : Room) (zPc [.ref (ad 0), .int p1, .int p2] (dC, dI) (zT cB cI cJ cZ cP cQ) [(ad 0, .inr (8, xf0 ad)), (ad 23, .inr (5, xf23 ad)), (ad 38, .inr (6, xf38 ad))] sz [] []) (va_Ql (fun r _ => (fun r => (r = (-2000000000) ∧ p2.toInt < (-9999999)) ∨ (r = (-2000000000) ∧ (-9999999) ≤ p2.toInt ∧ 9999999 < p2.toInt) ∨ (r = (-2000000000) ∧ (-9999999) ≤ p2.toInt ∧ p2.toInt ≤ 9999999 ∧ p1.toInt < 1) ∨ (r = (-2000000000) ∧ (-9999999) ≤ p2.toInt ∧ p2.toInt ≤ 9999999 ∧ 1 ≤ p1.toInt ∧ 4094 < p1.toInt) ∨ (r = (-2000000000) ∧ (-9999999) ≤ p2.toInt ∧ p2.toInt ≤ 9999999 ∧ 1 ≤ p1.toInt ∧ p1.toInt ≤ 4094)) r) (zB (dC, dI) (zT cB cI cJ cZ cP cQ) (fun _ : Unit => []) [(ad 0, .inr (8, xf0 ad)), (ad 23, .inr (5, xf23 ad)), (ad 38, .inr (6, xf38 ad))] sz) (va_A [(ad 0, .inr (8, xf0 ad)), (ad 23, .inr (5, xf23 ad)), (ad 38, .inr (6, xf38 ad))] sz)) 0 0 (va_A [(ad 0, .inr (8, xf0 ad)), (ad 23, .inr (5, xf23 ad)), (ad 38, .inr (6, xf38 ad))] sz) := by
  refine z_enter (cc := cX8_leaked) (maxL := 3) (ret := (some .long)) (by decide) rfl (Nat.le_of_ble_eq_true rfl) ?_
  intro p e s m below meth c A ls Q H locs hx hb hr hml hown hts hlocks hin hK hP hD hA hX hS hAe hQ hl
  have hown : s.vm.findClass RX8 = some m.cls := hown
  have hi8 : ∀ w ∈ wsX80, w ∈ wsX8_leaked := fun w h => List.mem_cons_of_mem _ (List.mem_append_left _ (List.mem_append_left _ (List.mem_append_right _ h)))
  have hk0 := hts (.constant RX8 318 (-9999999)) (by decide +kernel)
  have hk1 := hts (.constant RX8 319 9999999) (by decide +kernel)
  have hk2 := hts (.constantLong RX8 320 (-2000000000)) (by decide +kernel)
  have hk3 := hts (.fieldLink RX8 29 "MonthPush" "all" "LMonthPush$Sheets;") (by decide +kernel)
  have hl : lv_has ls 3 [(0, .ref (ad 0)), (1, .int p1), (2, .int p2)] := hl
  refine lv_iload_n hx hb dX8_leaked_0 rfl (lv_at hl 2 rfl) ?_
  refine lv_ldcw hx hb hown hk0 dX8_leaked_1 ?_
  refine lv_ldcw hx hb hown hk1 dX8_leaked_4 ?_
  refine z_fini (w' := fun (u1 : Unit) => [(ad 0, .inr (8, xf0 ad)), (ad 23, .inr (5, xf23 ad)), (ad 38, .inr (6, xf38 ad))]) (va_runS (As := [.int p2, .int (-9999999), .int 9999999]) (rest := []) ⟨hx, hb, hml, hown, hts⟩ (c_X8_within_84 l dC dI cB cI cJ cZ cP cQ H.size p2) (va_cwS 3 hts gX8_leaked_X8_within rfl rfl rfl (by decide +kernel) ⟨Nat.le_of_ble_eq_true rfl, Nat.le_of_ble_eq_true rfl⟩) (z_pS hK hP hD zX_nil [] (by decide) rfl) rfl rfl hl.1 rfl (lv_room (Nat.le_of_ble_eq_true rfl)) dX8_leaked_7 ⟨Nat.le_of_ble_eq_true rfl, Nat.le_of_ble_eq_true rfl⟩) hP hD hS hA [] [0, 1, 2] [0, 1, 2] rfl rfl (by decide) (by decide) (fun _ => rfl) (by decide) (fun r2 u1 H locs hp3 hP hD hS => ?_)
  have hP : va_P (dC, dI) vwCl [(ad 0, .inr (8, xf0 ad)), (ad 23, .inr (5, xf23 ad)), (ad 38, .inr (6, xf38 ad))] H := hP
  have hD : va_D A [(ad 0, .inr (8, xf0 ad)), (ad 23, .inr (5, xf23 ad)), (ad 38, .inr (6, xf38 ad))] := hD
  refine W.widen (k := 0) (n := 0) (by decide) (by decide) ?_
  rcases hp3 with ⟨rfl, f4⟩ | ⟨rfl, f5, f6⟩ | ⟨rfl, f7, f8⟩
  · refine lv_if_ne (tgt := 17) hx hb dX8_leaked_10 (by decide) (fun c => absurd (by decide) c) (fun _ => ?_)
    refine lv_ldc2 hx hb hown hk2 dX8_leaked_13 ?_
    have hP9 := hP.sub (ws' := []) [] rfl
    have hD9 := hD.sub (ws' := []) [] (by decide) rfl
    exact z_lret () hx hb hr hlocks hK hP9 hD9 hS hAe hQ rfl (Or.inl (⟨rfl, f4⟩)) dX8_leaked_16
  · refine lv_if_ne (tgt := 17) hx hb dX8_leaked_10 (by decide) (fun c => absurd (by decide) c) (fun _ => ?_)
    refine lv_ldc2 hx hb hown hk2 dX8_leaked_13 ?_
    have hP9 := hP.sub (ws' := []) [] rfl
    have hD9 := hD.sub (ws' := []) [] (by decide) rfl
    exact z_lret () hx hb hr hlocks hK hP9 hD9 hS hAe hQ rfl (Or.inr (Or.inl ⟨rfl, f5, f6⟩)) dX8_leaked_16
  · refine lv_if_ne (tgt := 17) hx hb dX8_leaked_10 (by decide) (fun _ => ?_) (fun c => absurd c (by decide))
    refine lv_aload_n hx hb dX8_leaked_17 rfl (lv_at hl 0 rfl) ?_
    refine lv_aload_n hx hb dX8_leaked_18 rfl (lv_at hl 0 rfl) ?_
    refine va_get (D := (dC, dI)) (ci := 8) (v := .ref (ad 23)) (C := RX8) (T := TX8) (N := 10) hx hb hts hi8 hown hK hP 0 rfl rfl 3 (by decide) hk3 (fun _ h9 => h9) rfl dX8_leaked_19 ?_
    refine lv_iload_n hx hb dX8_leaked_22 rfl (lv_at hl 1 rfl) ?_
    refine z_finr (w' := fun (u9 : Unit) => [(ad 0, .inr (8, xf0 ad)), (ad 23, .inr (5, xf23 ad)), (ad 38, .inr (6, xf38 ad))]) (va_runV (As := [.ref (ad 23), .int p1]) (rest := []) ⟨hx, hb, hml, hown, hts⟩ (c_X8_divided_53 l dC dI cB cI cJ cZ cP cQ ad H.size p1) (cwV 2 hts gX8_leaked_X8_divided rfl rfl rfl (by decide +kernel) ⟨Nat.le_of_ble_eq_true rfl, Nat.le_of_ble_eq_true rfl⟩) (z_pV (ci := 8) hK hP hD zX_nil [0, 1, 2] (by decide) rfl rfl 0 rfl) rfl rfl hl.1 rfl (lv_room (Nat.le_of_ble_eq_true rfl)) dX8_leaked_23 ⟨Nat.le_of_ble_eq_true rfl, Nat.le_of_ble_eq_true rfl⟩) hP hD hS hA [0, 1, 2] [] [0, 1, 2] rfl rfl (by decide) (by decide) (fun _ => rfl) (by decide) (fun u9 H locs hp11 hP hD hS => ?_)
    have hP : va_P (dC, dI) vwCl [(ad 0, .inr (8, xf0 ad)), (ad 23, .inr (5, xf23 ad)), (ad 38, .inr (6, xf38 ad))] H := hP
    have hD : va_D A [(ad 0, .inr (8, xf0 ad)), (ad 23, .inr (5, xf23 ad)), (ad 38, .inr (6, xf38 ad))] := hD
    refine W.widen (k := 0) (n := 0) (by decide) (by decide) ?_
    rcases hp11 with f12 | ⟨f13, f14⟩ | ⟨f15, f16⟩
    · refine lv_iload_n hx hb dX8_leaked_26 rfl (lv_at hl 2 rfl) ?_
      refine lv_i2l hx hb dX8_leaked_27 rfl ?_
      refine z_finl (w' := fun (u17 : Unit) => [(ad 0, .inr (8, xf0 ad)), (ad 23, .inr (5, xf23 ad)), (ad 38, .inr (6, xf38 ad))]) (va_runV (As := [.long p2.toInt64]) (rest := []) ⟨hx, hb, hml, hown, hts⟩ (c_X6_byMovedLess_85 l dC dI cB cI cJ cZ cP cQ ad H.size p2) (cwV 1 hts gX8_leaked_X6_byMovedLess rfl rfl rfl (by decide +kernel) ⟨Nat.le_of_ble_eq_true rfl, Nat.le_of_ble_eq_true rfl⟩) (z_pV (ci := 6) hK hP hD zX_nil [2] (by decide) rfl rfl 2 rfl) rfl rfl hl.1 rfl (lv_room (Nat.le_of_ble_eq_true rfl)) dX8_leaked_28 ⟨Nat.le_of_ble_eq_true rfl, Nat.le_of_ble_eq_true rfl⟩) hP hD hS hA [2] [0, 1] [0, 1, 2] rfl rfl (by decide) (by decide) (fun _ => rfl) (by decide) (fun r18 u17 H locs hp19 hP hD hS => ?_)
      have hP : va_P (dC, dI) vwCl [(ad 0, .inr (8, xf0 ad)), (ad 23, .inr (5, xf23 ad)), (ad 38, .inr (6, xf38 ad))] H := hP
      have hD : va_D A [(ad 0, .inr (8, xf0 ad)), (ad 23, .inr (5, xf23 ad)), (ad 38, .inr (6, xf38 ad))] := hD
      refine W.widen (k := 0) (n := 0) (by decide) (by decide) ?_
      obtain rfl : r18 = (-9000000000000000000) := hp19
      refine z_finl (w' := fun (u20 : Unit) => [(ad 0, .inr (8, xf0 ad)), (ad 23, .inr (5, xf23 ad)), (ad 38, .inr (6, xf38 ad))]) (va_runS (As := [.long (-9000000000000000000)]) (rest := []) ⟨hx, hb, hml, hown, hts⟩ (c_X8_toFace_49 l dC dI cB cI cJ cZ cP cQ H.size) (va_cwS 1 hts gX8_leaked_X8_toFace rfl rfl rfl (by decide +kernel) ⟨Nat.le_of_ble_eq_true rfl, Nat.le_of_ble_eq_true rfl⟩) (z_pS hK hP hD zX_nil [] (by decide) rfl) rfl rfl hl.1 rfl (lv_room (Nat.le_of_ble_eq_true rfl)) dX8_leaked_31 ⟨Nat.le_of_ble_eq_true rfl, Nat.le_of_ble_eq_true rfl⟩) hP hD hS hA [] [0, 1, 2] [0, 1, 2] rfl rfl (by decide) (by decide) (fun _ => rfl) (by decide) (fun r21 u20 H locs hp22 hP hD hS => ?_)
      have hP : va_P (dC, dI) vwCl [(ad 0, .inr (8, xf0 ad)), (ad 23, .inr (5, xf23 ad)), (ad 38, .inr (6, xf38 ad))] H := hP
      have hD : va_D A [(ad 0, .inr (8, xf0 ad)), (ad 23, .inr (5, xf23 ad)), (ad 38, .inr (6, xf38 ad))] := hD
      refine W.widen (k := 0) (n := 0) (by decide) (by decide) ?_
      obtain rfl : r21 = (-2000000000) := hp22
      have hP9 := hP.sub (ws' := []) [] rfl
      have hD9 := hD.sub (ws' := []) [] (by decide) rfl
      exact z_lret () hx hb hr hlocks hK hP9 hD9 hS hAe hQ rfl (Or.inr (Or.inr (Or.inl ⟨rfl, f7, f8, f12⟩))) dX8_leaked_34
    · refine lv_iload_n hx hb dX8_leaked_26 rfl (lv_at hl 2 rfl) ?_
      refine lv_i2l hx hb dX8_leaked_27 rfl ?_
      refine z_finl (w' := fun (u23 : Unit) => [(ad 0, .inr (8, xf0 ad)), (ad 23, .inr (5, xf23 ad)), (ad 38, .inr (6, xf38 ad))]) (va_runV (As := [.long p2.toInt64]) (rest := []) ⟨hx, hb, hml, hown, hts⟩ (c_X6_byMovedLess_85 l dC dI cB cI cJ cZ cP cQ ad H.size p2) (cwV 1 hts gX8_leaked_X6_byMovedLess rfl rfl rfl (by decide +kernel) ⟨Nat.le_of_ble_eq_true rfl, Nat.le_of_ble_eq_true rfl⟩) (z_pV (ci := 6) hK hP hD zX_nil [2] (by decide) rfl rfl 2 rfl) rfl rfl hl.1 rfl (lv_room (Nat.le_of_ble_eq_true rfl)) dX8_leaked_28 ⟨Nat.le_of_ble_eq_true rfl, Nat.le_of_ble_eq_true rfl⟩) hP hD hS hA [2] [0, 1] [0, 1, 2] rfl rfl (by decide) (by decide) (fun _ => rfl) (by decide) (fun r24 u23 H locs hp25 hP hD hS => ?_)
      have hP : va_P (dC, dI) vwCl [(ad 0, .inr (8, xf0 ad)), (ad 23, .inr (5, xf23 ad)), (ad 38, .inr (6, xf38 ad))] H := hP
      have hD : va_D A [(ad 0, .inr (8, xf0 ad)), (ad 23, .inr (5, xf23 ad)), (ad 38, .inr (6, xf38 ad))] := hD
      refine W.widen (k := 0) (n := 0) (by decide) (by decide) ?_
      obtain rfl : r24 = (-9000000000000000000) := hp25
      refine z_finl (w' := fun (u26 : Unit) => [(ad 0, .inr (8, xf0 ad)), (ad 23, .inr (5, xf23 ad)), (ad 38, .inr (6, xf38 ad))]) (va_runS (As := [.long (-9000000000000000000)]) (rest := []) ⟨hx, hb, hml, hown, hts⟩ (c_X8_toFace_49 l dC dI cB cI cJ cZ cP cQ H.size) (va_cwS 1 hts gX8_leaked_X8_toFace rfl rfl rfl (by decide +kernel) ⟨Nat.le_of_ble_eq_true rfl, Nat.le_of_ble_eq_true rfl⟩) (z_pS hK hP hD zX_nil [] (by decide) rfl) rfl rfl hl.1 rfl (lv_room (Nat.le_of_ble_eq_true rfl)) dX8_leaked_31 ⟨Nat.le_of_ble_eq_true rfl, Nat.le_of_ble_eq_true rfl⟩) hP hD hS hA [] [0, 1, 2] [0, 1, 2] rfl rfl (by decide) (by decide) (fun _ => rfl) (by decide) (fun r27 u26 H locs hp28 hP hD hS => ?_)
      have hP : va_P (dC, dI) vwCl [(ad 0, .inr (8, xf0 ad)), (ad 23, .inr (5, xf23 ad)), (ad 38, .inr (6, xf38 ad))] H := hP
      have hD : va_D A [(ad 0, .inr (8, xf0 ad)), (ad 23, .inr (5, xf23 ad)), (ad 38, .inr (6, xf38 ad))] := hD
      refine W.widen (k := 0) (n := 0) (by decide) (by decide) ?_
      obtain rfl : r27 = (-2000000000) := hp28
      have hP9 := hP.sub (ws' := []) [] rfl
      have hD9 := hD.sub (ws' := []) [] (by decide) rfl
      exact z_lret () hx hb hr hlocks hK hP9 hD9 hS hAe hQ rfl (Or.inr (Or.inr (Or.inr (Or.inl ⟨rfl, f7, f8, f13, f14⟩)))) dX8_leaked_34
    · refine lv_iload_n hx hb dX8_leaked_26 rfl (lv_at hl 2 rfl) ?_
      refine lv_i2l hx hb dX8_leaked_27 rfl ?_
      refine z_finl (w' := fun (u29 : Unit) => [(ad 0, .inr (8, xf0 ad)), (ad 23, .inr (5, xf23 ad)), (ad 38, .inr (6, xf38 ad))]) (va_runV (As := [.long p2.toInt64]) (rest := []) ⟨hx, hb, hml, hown, hts⟩ (c_X6_byMovedLess_85 l dC dI cB cI cJ cZ cP cQ ad H.size p2) (cwV 1 hts gX8_leaked_X6_byMovedLess rfl rfl rfl (by decide +kernel) ⟨Nat.le_of_ble_eq_true rfl, Nat.le_of_ble_eq_true rfl⟩) (z_pV (ci := 6) hK hP hD zX_nil [2] (by decide) rfl rfl 2 rfl) rfl rfl hl.1 rfl (lv_room (Nat.le_of_ble_eq_true rfl)) dX8_leaked_28 ⟨Nat.le_of_ble_eq_true rfl, Nat.le_of_ble_eq_true rfl⟩) hP hD hS hA [2] [0, 1] [0, 1, 2] rfl rfl (by decide) (by decide) (fun _ => rfl) (by decide) (fun r30 u29 H locs hp31 hP hD hS => ?_)
      have hP : va_P (dC, dI) vwCl [(ad 0, .inr (8, xf0 ad)), (ad 23, .inr (5, xf23 ad)), (ad 38, .inr (6, xf38 ad))] H := hP
      have hD : va_D A [(ad 0, .inr (8, xf0 ad)), (ad 23, .inr (5, xf23 ad)), (ad 38, .inr (6, xf38 ad))] := hD
      refine W.widen (k := 0) (n := 0) (by decide) (by decide) ?_
      obtain rfl : r30 = (-9000000000000000000) := hp31
      refine z_finl (w' := fun (u32 : Unit) => [(ad 0, .inr (8, xf0 ad)), (ad 23, .inr (5, xf23 ad)), (ad 38, .inr (6, xf38 ad))]) (va_runS (As := [.long (-9000000000000000000)]) (rest := []) ⟨hx, hb, hml, hown, hts⟩ (c_X8_toFace_49 l dC dI cB cI cJ cZ cP cQ H.size) (va_cwS 1 hts gX8_leaked_X8_toFace rfl rfl rfl (by decide +kernel) ⟨Nat.le_of_ble_eq_true rfl, Nat.le_of_ble_eq_true rfl⟩) (z_pS hK hP hD zX_nil [] (by decide) rfl) rfl rfl hl.1 rfl (lv_room (Nat.le_of_ble_eq_true rfl)) dX8_leaked_31 ⟨Nat.le_of_ble_eq_true rfl, Nat.le_of_ble_eq_true rfl⟩) hP hD hS hA [] [0, 1, 2] [0, 1, 2] rfl rfl (by decide) (by decide) (fun _ => rfl) (by decide) (fun r33 u32 H locs hp34 hP hD hS => ?_)
      have hP : va_P (dC, dI) vwCl [(ad 0, .inr (8, xf0 ad)), (ad 23, .inr (5, xf23 ad)), (ad 38, .inr (6, xf38 ad))] H := hP
      have hD : va_D A [(ad 0, .inr (8, xf0 ad)), (ad 23, .inr (5, xf23 ad)), (ad 38, .inr (6, xf38 ad))] := hD
      refine W.widen (k := 0) (n := 0) (by decide) (by decide) ?_
      obtain rfl : r33 = (-2000000000) := hp34
      have hP9 := hP.sub (ws' := []) [] rfl
      have hD9 := hD.sub (ws' := []) [] (by decide) rfl
      exact z_lret () hx hb hr hlocks hK hP9 hD9 hS hAe hQ rfl (Or.inr (Or.inr (Or.inr (Or.inr ⟨rfl, f7, f8, f15, f16⟩)))) dX8_leaked_34
set_option maxHeartbeats 4000000 in
set_option maxRecDepth 100000 in
theorem c_X8_homes_86 (l : Launch) (dC : Nat → ClassId) (dI : Nat → Nat → Nat) (cB cI cJ cZ cP cQ : ClassId) (ad : Nat → Nat) (sz : Nat) (p1 : Int32) : Met l yX8_homes wsX8_homes ({ frames := 3, cells := 0, slots := 0, locals := 65 } : Room) (zPc [.ref (ad 0), .int p1] (dC, dI) (zT cB cI cJ cZ cP cQ) [(ad 0, .inr (8, xf0 ad)), (ad 23, .inr (5, xf23 ad)), (ad 38, .inr (6, xf38 ad))] sz [] []) (va_Ql (fun r _ => (fun r => (r = (-2000000000) ∧ p1.toInt < 1) ∨ (r = (-2000000000) ∧ 1 ≤ p1.toInt ∧ 4094 < p1.toInt) ∨ (r = (-2000000000) ∧ 1 ≤ p1.toInt ∧ p1.toInt ≤ 4094)) r) (zB (dC, dI) (zT cB cI cJ cZ cP cQ) (fun _ : Unit => []) [(ad 0, .inr (8, xf0 ad)), (ad 23, .inr (5, xf23 ad)), (ad 38, .inr (6, xf38 ad))] sz) (va_A [(ad 0, .inr (8, xf0 ad)), (ad 23, .inr (5, xf23 ad)), (ad 38, .inr (6, xf38 ad))] sz)) 0 0 (va_A [(ad 0, .inr (8, xf0 ad)), (ad 23, .inr (5, xf23 ad)), (ad 38, .inr (6, xf38 ad))] sz) := by
  refine z_enter (cc := cX8_homes) (maxL := 3) (ret := (some .long)) (by decide) rfl (Nat.le_of_ble_eq_true rfl) ?_
  intro p e s m below meth c A ls Q H locs hx hb hr hml hown hts hlocks hin hK hP hD hA hX hS hAe hQ hl
  have hown : s.vm.findClass RX8 = some m.cls := hown
  have hi6 : ∀ w ∈ wsX60, w ∈ wsX8_homes := fun w h => List.mem_cons_of_mem _ (List.mem_append_left _ (List.mem_append_right _ h))
  have hi8 : ∀ w ∈ wsX80, w ∈ wsX8_homes := fun w h => List.mem_cons_of_mem _ (List.mem_append_left _ (List.mem_append_left _ (List.mem_append_right _ h)))
  have hk0 := hts (.fieldLink RX8 29 "MonthPush" "all" "LMonthPush$Sheets;") (by decide +kernel)
  have hk1 := hts (.fieldLink RX8 325 "MonthPush$Split" "gift" "J") (by decide +kernel)
  have hk2 := hts (.fieldLink RX8 327 "MonthPush$Split" "otherGift" "J") (by decide +kernel)
  have hl : lv_has ls 3 [(0, .ref (ad 0)), (1, .int p1)] := hl
  refine lv_aload_n hx hb dX8_homes_0 rfl (lv_at hl 0 rfl) ?_
  refine lv_aload_n hx hb dX8_homes_1 rfl (lv_at hl 0 rfl) ?_
  refine va_get (D := (dC, dI)) (ci := 8) (v := .ref (ad 23)) (C := RX8) (T := TX8) (N := 10) hx hb hts hi8 hown hK hP 0 rfl rfl 3 (by decide) hk0 (fun _ h9 => h9) rfl dX8_homes_2 ?_
  refine lv_iload_n hx hb dX8_homes_5 rfl (lv_at hl 1 rfl) ?_
  refine z_finr (w' := fun (u1 : Unit) => [(ad 0, .inr (8, xf0 ad)), (ad 23, .inr (5, xf23 ad)), (ad 38, .inr (6, xf38 ad))]) (va_runV (As := [.ref (ad 23), .int p1]) (rest := []) ⟨hx, hb, hml, hown, hts⟩ (c_X8_divided_53 l dC dI cB cI cJ cZ cP cQ ad H.size p1) (cwV 2 hts gX8_homes_X8_divided rfl rfl rfl (by decide +kernel) ⟨Nat.le_of_ble_eq_true rfl, Nat.le_of_ble_eq_true rfl⟩) (z_pV (ci := 8) hK hP hD zX_nil [0, 1, 2] (by decide) rfl rfl 0 rfl) rfl rfl hl.1 rfl (lv_room (Nat.le_of_ble_eq_true rfl)) dX8_homes_6 ⟨Nat.le_of_ble_eq_true rfl, Nat.le_of_ble_eq_true rfl⟩) hP hD hS hA [0, 1, 2] [] [0, 1, 2] rfl rfl (by decide) (by decide) (fun _ => rfl) (by decide) (fun u1 H locs hp3 hP hD hS => ?_)
  have hP : va_P (dC, dI) vwCl [(ad 0, .inr (8, xf0 ad)), (ad 23, .inr (5, xf23 ad)), (ad 38, .inr (6, xf38 ad))] H := hP
  have hD : va_D A [(ad 0, .inr (8, xf0 ad)), (ad 23, .inr (5, xf23 ad)), (ad 38, .inr (6, xf38 ad))] := hD
  refine W.widen (k := 0) (n := 0) (by decide) (by decide) ?_
  rcases hp3 with f4 | ⟨f5, f6⟩ | ⟨f7, f8⟩
  · refine lv_astore_n (lv' := [(2, .ref (ad 38)), (0, .ref (ad 0)), (1, .int p1)]) hx hb dX8_homes_9 rfl hl (by decide) rfl (fun ls hl => ?_)
    refine lv_aload_n hx hb dX8_homes_10 rfl (lv_at hl 0 rfl) ?_
    refine lv_aload_n hx hb dX8_homes_11 rfl (lv_at hl 0 rfl) ?_
    refine va_get (D := (dC, dI)) (ci := 6) (v := .long 0) (C := RX6) (T := TX6) (N := 11) hx hb hts hi6 hown hK hP 2 rfl rfl 3 (by decide) hk1 (fun _ h9 => h9) rfl dX8_homes_12 ?_
    refine lv_aload_n hx hb dX8_homes_15 rfl (lv_at hl 0 rfl) ?_
    refine va_get (D := (dC, dI)) (ci := 6) (v := .long 0) (C := RX6) (T := TX6) (N := 11) hx hb hts hi6 hown hK hP 2 rfl rfl 7 (by decide) hk2 (fun _ h9 => h9) rfl dX8_homes_16 ?_
    refine z_finl (w' := fun (u9 : Unit) => [(ad 0, .inr (8, xf0 ad)), (ad 23, .inr (5, xf23 ad)), (ad 38, .inr (6, xf38 ad))]) (va_runV (As := [.long 0, .long 0]) (rest := []) ⟨hx, hb, hml, hown, hts⟩ (c_X6_meanGap_65 l dC dI cB cI cJ cZ cP cQ ad H.size) (cwV 2 hts gX8_homes_X6_meanGap rfl rfl rfl (by decide +kernel) ⟨Nat.le_of_ble_eq_true rfl, Nat.le_of_ble_eq_true rfl⟩) (z_pV (ci := 6) hK hP hD zX_nil [2] (by decide) rfl rfl 2 rfl) rfl rfl hl.1 rfl (lv_room (Nat.le_of_ble_eq_true rfl)) dX8_homes_19 ⟨Nat.le_of_ble_eq_true rfl, Nat.le_of_ble_eq_true rfl⟩) hP hD hS hA [2] [0, 1] [0, 1, 2] rfl rfl (by decide) (by decide) (fun _ => rfl) (by decide) (fun r10 u9 H locs hp11 hP hD hS => ?_)
    have hP : va_P (dC, dI) vwCl [(ad 0, .inr (8, xf0 ad)), (ad 23, .inr (5, xf23 ad)), (ad 38, .inr (6, xf38 ad))] H := hP
    have hD : va_D A [(ad 0, .inr (8, xf0 ad)), (ad 23, .inr (5, xf23 ad)), (ad 38, .inr (6, xf38 ad))] := hD
    refine W.widen (k := 0) (n := 0) (by decide) (by decide) ?_
    obtain rfl : r10 = (-9000000000000000000) := hp11
    refine z_finl (w' := fun (u12 : Unit) => [(ad 0, .inr (8, xf0 ad)), (ad 23, .inr (5, xf23 ad)), (ad 38, .inr (6, xf38 ad))]) (va_runS (As := [.long (-9000000000000000000)]) (rest := []) ⟨hx, hb, hml, hown, hts⟩ (c_X8_toFace_49 l dC dI cB cI cJ cZ cP cQ H.size) (va_cwS 1 hts gX8_homes_X8_toFace rfl rfl rfl (by decide +kernel) ⟨Nat.le_of_ble_eq_true rfl, Nat.le_of_ble_eq_true rfl⟩) (z_pS hK hP hD zX_nil [] (by decide) rfl) rfl rfl hl.1 rfl (lv_room (Nat.le_of_ble_eq_true rfl)) dX8_homes_22 ⟨Nat.le_of_ble_eq_true rfl, Nat.le_of_ble_eq_true rfl⟩) hP hD hS hA [] [0, 1, 2] [0, 1, 2] rfl rfl (by decide) (by decide) (fun _ => rfl) (by decide) (fun r13 u12 H locs hp14 hP hD hS => ?_)
    have hP : va_P (dC, dI) vwCl [(ad 0, .inr (8, xf0 ad)), (ad 23, .inr (5, xf23 ad)), (ad 38, .inr (6, xf38 ad))] H := hP
    have hD : va_D A [(ad 0, .inr (8, xf0 ad)), (ad 23, .inr (5, xf23 ad)), (ad 38, .inr (6, xf38 ad))] := hD
    refine W.widen (k := 0) (n := 0) (by decide) (by decide) ?_
    obtain rfl : r13 = (-2000000000) := hp14
    have hP9 := hP.sub (ws' := []) [] rfl
    have hD9 := hD.sub (ws' := []) [] (by decide) rfl
    exact z_lret () hx hb hr hlocks hK hP9 hD9 hS hAe hQ rfl (Or.inl (⟨rfl, f4⟩)) dX8_homes_25
  · refine lv_astore_n (lv' := [(2, .ref (ad 38)), (0, .ref (ad 0)), (1, .int p1)]) hx hb dX8_homes_9 rfl hl (by decide) rfl (fun ls hl => ?_)
    refine lv_aload_n hx hb dX8_homes_10 rfl (lv_at hl 0 rfl) ?_
    refine lv_aload_n hx hb dX8_homes_11 rfl (lv_at hl 0 rfl) ?_
    refine va_get (D := (dC, dI)) (ci := 6) (v := .long 0) (C := RX6) (T := TX6) (N := 11) hx hb hts hi6 hown hK hP 2 rfl rfl 3 (by decide) hk1 (fun _ h9 => h9) rfl dX8_homes_12 ?_
    refine lv_aload_n hx hb dX8_homes_15 rfl (lv_at hl 0 rfl) ?_
    refine va_get (D := (dC, dI)) (ci := 6) (v := .long 0) (C := RX6) (T := TX6) (N := 11) hx hb hts hi6 hown hK hP 2 rfl rfl 7 (by decide) hk2 (fun _ h9 => h9) rfl dX8_homes_16 ?_
    refine z_finl (w' := fun (u15 : Unit) => [(ad 0, .inr (8, xf0 ad)), (ad 23, .inr (5, xf23 ad)), (ad 38, .inr (6, xf38 ad))]) (va_runV (As := [.long 0, .long 0]) (rest := []) ⟨hx, hb, hml, hown, hts⟩ (c_X6_meanGap_65 l dC dI cB cI cJ cZ cP cQ ad H.size) (cwV 2 hts gX8_homes_X6_meanGap rfl rfl rfl (by decide +kernel) ⟨Nat.le_of_ble_eq_true rfl, Nat.le_of_ble_eq_true rfl⟩) (z_pV (ci := 6) hK hP hD zX_nil [2] (by decide) rfl rfl 2 rfl) rfl rfl hl.1 rfl (lv_room (Nat.le_of_ble_eq_true rfl)) dX8_homes_19 ⟨Nat.le_of_ble_eq_true rfl, Nat.le_of_ble_eq_true rfl⟩) hP hD hS hA [2] [0, 1] [0, 1, 2] rfl rfl (by decide) (by decide) (fun _ => rfl) (by decide) (fun r16 u15 H locs hp17 hP hD hS => ?_)
    have hP : va_P (dC, dI) vwCl [(ad 0, .inr (8, xf0 ad)), (ad 23, .inr (5, xf23 ad)), (ad 38, .inr (6, xf38 ad))] H := hP
    have hD : va_D A [(ad 0, .inr (8, xf0 ad)), (ad 23, .inr (5, xf23 ad)), (ad 38, .inr (6, xf38 ad))] := hD
    refine W.widen (k := 0) (n := 0) (by decide) (by decide) ?_
    obtain rfl : r16 = (-9000000000000000000) := hp17
    refine z_finl (w' := fun (u18 : Unit) => [(ad 0, .inr (8, xf0 ad)), (ad 23, .inr (5, xf23 ad)), (ad 38, .inr (6, xf38 ad))]) (va_runS (As := [.long (-9000000000000000000)]) (rest := []) ⟨hx, hb, hml, hown, hts⟩ (c_X8_toFace_49 l dC dI cB cI cJ cZ cP cQ H.size) (va_cwS 1 hts gX8_homes_X8_toFace rfl rfl rfl (by decide +kernel) ⟨Nat.le_of_ble_eq_true rfl, Nat.le_of_ble_eq_true rfl⟩) (z_pS hK hP hD zX_nil [] (by decide) rfl) rfl rfl hl.1 rfl (lv_room (Nat.le_of_ble_eq_true rfl)) dX8_homes_22 ⟨Nat.le_of_ble_eq_true rfl, Nat.le_of_ble_eq_true rfl⟩) hP hD hS hA [] [0, 1, 2] [0, 1, 2] rfl rfl (by decide) (by decide) (fun _ => rfl) (by decide) (fun r19 u18 H locs hp20 hP hD hS => ?_)
    have hP : va_P (dC, dI) vwCl [(ad 0, .inr (8, xf0 ad)), (ad 23, .inr (5, xf23 ad)), (ad 38, .inr (6, xf38 ad))] H := hP
    have hD : va_D A [(ad 0, .inr (8, xf0 ad)), (ad 23, .inr (5, xf23 ad)), (ad 38, .inr (6, xf38 ad))] := hD
    refine W.widen (k := 0) (n := 0) (by decide) (by decide) ?_
    obtain rfl : r19 = (-2000000000) := hp20
    have hP9 := hP.sub (ws' := []) [] rfl
    have hD9 := hD.sub (ws' := []) [] (by decide) rfl
    exact z_lret () hx hb hr hlocks hK hP9 hD9 hS hAe hQ rfl (Or.inr (Or.inl ⟨rfl, f5, f6⟩)) dX8_homes_25
  · refine lv_astore_n (lv' := [(2, .ref (ad 38)), (0, .ref (ad 0)), (1, .int p1)]) hx hb dX8_homes_9 rfl hl (by decide) rfl (fun ls hl => ?_)
    refine lv_aload_n hx hb dX8_homes_10 rfl (lv_at hl 0 rfl) ?_
    refine lv_aload_n hx hb dX8_homes_11 rfl (lv_at hl 0 rfl) ?_
    refine va_get (D := (dC, dI)) (ci := 6) (v := .long 0) (C := RX6) (T := TX6) (N := 11) hx hb hts hi6 hown hK hP 2 rfl rfl 3 (by decide) hk1 (fun _ h9 => h9) rfl dX8_homes_12 ?_
    refine lv_aload_n hx hb dX8_homes_15 rfl (lv_at hl 0 rfl) ?_
    refine va_get (D := (dC, dI)) (ci := 6) (v := .long 0) (C := RX6) (T := TX6) (N := 11) hx hb hts hi6 hown hK hP 2 rfl rfl 7 (by decide) hk2 (fun _ h9 => h9) rfl dX8_homes_16 ?_
    refine z_finl (w' := fun (u21 : Unit) => [(ad 0, .inr (8, xf0 ad)), (ad 23, .inr (5, xf23 ad)), (ad 38, .inr (6, xf38 ad))]) (va_runV (As := [.long 0, .long 0]) (rest := []) ⟨hx, hb, hml, hown, hts⟩ (c_X6_meanGap_65 l dC dI cB cI cJ cZ cP cQ ad H.size) (cwV 2 hts gX8_homes_X6_meanGap rfl rfl rfl (by decide +kernel) ⟨Nat.le_of_ble_eq_true rfl, Nat.le_of_ble_eq_true rfl⟩) (z_pV (ci := 6) hK hP hD zX_nil [2] (by decide) rfl rfl 2 rfl) rfl rfl hl.1 rfl (lv_room (Nat.le_of_ble_eq_true rfl)) dX8_homes_19 ⟨Nat.le_of_ble_eq_true rfl, Nat.le_of_ble_eq_true rfl⟩) hP hD hS hA [2] [0, 1] [0, 1, 2] rfl rfl (by decide) (by decide) (fun _ => rfl) (by decide) (fun r22 u21 H locs hp23 hP hD hS => ?_)
    have hP : va_P (dC, dI) vwCl [(ad 0, .inr (8, xf0 ad)), (ad 23, .inr (5, xf23 ad)), (ad 38, .inr (6, xf38 ad))] H := hP
    have hD : va_D A [(ad 0, .inr (8, xf0 ad)), (ad 23, .inr (5, xf23 ad)), (ad 38, .inr (6, xf38 ad))] := hD
    refine W.widen (k := 0) (n := 0) (by decide) (by decide) ?_
    obtain rfl : r22 = (-9000000000000000000) := hp23
    refine z_finl (w' := fun (u24 : Unit) => [(ad 0, .inr (8, xf0 ad)), (ad 23, .inr (5, xf23 ad)), (ad 38, .inr (6, xf38 ad))]) (va_runS (As := [.long (-9000000000000000000)]) (rest := []) ⟨hx, hb, hml, hown, hts⟩ (c_X8_toFace_49 l dC dI cB cI cJ cZ cP cQ H.size) (va_cwS 1 hts gX8_homes_X8_toFace rfl rfl rfl (by decide +kernel) ⟨Nat.le_of_ble_eq_true rfl, Nat.le_of_ble_eq_true rfl⟩) (z_pS hK hP hD zX_nil [] (by decide) rfl) rfl rfl hl.1 rfl (lv_room (Nat.le_of_ble_eq_true rfl)) dX8_homes_22 ⟨Nat.le_of_ble_eq_true rfl, Nat.le_of_ble_eq_true rfl⟩) hP hD hS hA [] [0, 1, 2] [0, 1, 2] rfl rfl (by decide) (by decide) (fun _ => rfl) (by decide) (fun r25 u24 H locs hp26 hP hD hS => ?_)
    have hP : va_P (dC, dI) vwCl [(ad 0, .inr (8, xf0 ad)), (ad 23, .inr (5, xf23 ad)), (ad 38, .inr (6, xf38 ad))] H := hP
    have hD : va_D A [(ad 0, .inr (8, xf0 ad)), (ad 23, .inr (5, xf23 ad)), (ad 38, .inr (6, xf38 ad))] := hD
    refine W.widen (k := 0) (n := 0) (by decide) (by decide) ?_
    obtain rfl : r25 = (-2000000000) := hp26
    have hP9 := hP.sub (ws' := []) [] rfl
    have hD9 := hD.sub (ws' := []) [] (by decide) rfl
    exact z_lret () hx hb hr hlocks hK hP9 hD9 hS hAe hQ rfl (Or.inr (Or.inr ⟨rfl, f7, f8⟩)) dX8_homes_25
set_option maxHeartbeats 4000000 in
set_option maxRecDepth 100000 in
theorem c_X8_within_88 (l : Launch) (dC : Nat → ClassId) (dI : Nat → Nat → Nat) (cB cI cJ cZ cP cQ : ClassId) (sz : Nat) (p0 : Int32) : Met l yX8_within wsX8_within ({ frames := 0, cells := 0, slots := 0, locals := 0 } : Room) (zPc [.int p0, .int 0, .int 1] (dC, dI) (zT cB cI cJ cZ cP cQ) [] sz [] []) (va_Qi (fun r _ => (fun r => (r = 0 ∧ p0.toInt < 0) ∨ (r = 0 ∧ 0 ≤ p0.toInt ∧ 1 < p0.toInt) ∨ (r = 1 ∧ 0 ≤ p0.toInt ∧ p0.toInt ≤ 1)) r) (zB (dC, dI) (zT cB cI cJ cZ cP cQ) (fun _ : Unit => []) [] sz) (va_A [] sz)) 0 0 (va_A [] sz) := by
  refine z_enter (cc := cX8_within) (maxL := 3) (ret := (some .boolean)) (by decide) rfl (Nat.le_of_ble_eq_true rfl) ?_
  intro p e s m below meth c A ls Q H locs hx hb hr hml hown hts hlocks hin hK hP hD hA hX hS hAe hQ hl
  have hown : s.vm.findClass RX8 = some m.cls := hown
  have hl : lv_has ls 3 [(0, .int p0), (1, .int 0), (2, .int 1)] := hl
  refine lv_iload_n hx hb dX8_within_0 rfl (lv_at hl 0 rfl) ?_
  refine lv_iload_n hx hb dX8_within_1 rfl (lv_at hl 1 rfl) ?_
  refine lv_icmp_lt (tgt := 14) hx hb dX8_within_2 (by decide) (fun c_1 => ?_) (fun c_1 => ?_)
  · have f2 : p0.toInt < 0 := z_lt rfl (by decide) c_1
    refine lv_iconst (v := 0) hx hb dX8_within_14 (by decide) ?_
    exact z_zret () hx hb hr hlocks hK hP hD hS hAe hQ rfl (Or.inl (⟨rfl, f2⟩)) (by decide) dX8_within_15
  · have f2 : 0 ≤ p0.toInt := z_nlt rfl (by decide) c_1
    refine lv_iload_n hx hb dX8_within_5 rfl (lv_at hl 0 rfl) ?_
    refine lv_iload_n hx hb dX8_within_6 rfl (lv_at hl 2 rfl) ?_
    refine lv_icmp_gt (tgt := 14) hx hb dX8_within_7 (by decide) (fun c_3 => ?_) (fun c_3 => ?_)
    · have f4 : 1 < p0.toInt := z_lt (by decide) rfl c_3
      refine lv_iconst (v := 0) hx hb dX8_within_14 (by decide) ?_
      exact z_zret () hx hb hr hlocks hK hP hD hS hAe hQ rfl (Or.inr (Or.inl ⟨rfl, f2, f4⟩)) (by decide) dX8_within_15
    · have f4 : p0.toInt ≤ 1 := z_nlt (by decide) rfl c_3
      refine lv_iconst (v := 1) hx hb dX8_within_10 (by decide) ?_
      refine lv_goto (tgt := 15) hx hb dX8_within_11 (by decide) ?_
      exact z_zret () hx hb hr hlocks hK hP hD hS hAe hQ rfl (Or.inr (Or.inr ⟨rfl, f2, f4⟩)) (by decide) dX8_within_15
set_option maxHeartbeats 4000000 in
set_option maxRecDepth 100000 in
theorem c_X8_whom_88 (l : Launch) (dC : Nat → ClassId) (dI : Nat → Nat → Nat) (cB cI cJ cZ cP cQ : ClassId) (ad : Nat → Nat) (sz : Nat) (p1 : Int32) : Met l yX8_whom wsX8_whom ({ frames := 1, cells := 0, slots := 0, locals := 22 } : Room) (zPc [.ref (ad 0), .int p1] (dC, dI) (zT cB cI cJ cZ cP cQ) [(ad 0, .inr (8, xf0 ad)), (ad 23, .inr (5, xf23 ad))] sz [] []) (va_Qi (fun r _ => (fun r => (r = (-1) ∧ p1.toInt < 0) ∨ (r = (-1) ∧ 0 ≤ p1.toInt ∧ 1 < p1.toInt) ∨ (r = 0 ∧ 0 ≤ p1.toInt ∧ p1.toInt ≤ 1)) r) (zB (dC, dI) (zT cB cI cJ cZ cP cQ) (fun _ : Unit => []) [(ad 0, .inr (8, xf0 ad)), (ad 23, .inr (5, xf23 ad))] sz) (va_A [(ad 0, .inr (8, xf0 ad)), (ad 23, .inr (5, xf23 ad))] sz)) 0 0 (va_A [(ad 0, .inr (8, xf0 ad)), (ad 23, .inr (5, xf23 ad))] sz) := by
  refine z_enter (cc := cX8_whom) (maxL := 4) (ret := (some .int)) (by decide) rfl (Nat.le_of_ble_eq_true rfl) ?_
  intro p e s m below meth c A ls Q H locs hx hb hr hml hown hts hlocks hin hK hP hD hA hX hS hAe hQ hl
  have hown : s.vm.findClass RX8 = some m.cls := hown
  have hi5 : ∀ w ∈ wsX50, w ∈ wsX8_whom := fun w h => List.mem_cons_of_mem _ (List.mem_append_left _ (List.mem_append_right _ h))
  have hi8 : ∀ w ∈ wsX80, w ∈ wsX8_whom := fun w h => List.mem_cons_of_mem _ (List.mem_append_left _ (List.mem_append_left _ (List.mem_append_right _ h)))
  have hk0 := hts (.fieldLink RX8 29 "MonthPush" "all" "LMonthPush$Sheets;") (by decide +kernel)
  have hk1 := hts (.fieldLink RX8 127 "MonthPush$Sheets" "n" "I") (by decide +kernel)
  have hl : lv_has ls 4 [(0, .ref (ad 0)), (1, .int p1)] := hl
  refine lv_iload_n hx hb dX8_whom_0 rfl (lv_at hl 1 rfl) ?_
  refine lv_iconst (v := 0) hx hb dX8_whom_1 (by decide) ?_
  refine lv_iconst (v := 1) hx hb dX8_whom_2 (by decide) ?_
  refine z_fini (w' := fun (u1 : Unit) => [(ad 0, .inr (8, xf0 ad)), (ad 23, .inr (5, xf23 ad))]) (va_runS (As := [.int p1, .int 0, .int 1]) (rest := []) ⟨hx, hb, hml, hown, hts⟩ (c_X8_within_88 l dC dI cB cI cJ cZ cP cQ H.size p1) (va_cwS 3 hts gX8_whom_X8_within rfl rfl rfl (by decide +kernel) ⟨Nat.le_of_ble_eq_true rfl, Nat.le_of_ble_eq_true rfl⟩) (z_pS hK hP hD zX_nil [] (by decide) rfl) rfl rfl hl.1 rfl (lv_room (Nat.le_of_ble_eq_true rfl)) dX8_whom_3 ⟨Nat.le_of_ble_eq_true rfl, Nat.le_of_ble_eq_true rfl⟩) hP hD hS hA [] [0, 1] [0, 1] rfl rfl (by decide) (by decide) (fun _ => rfl) (by decide) (fun r2 u1 H locs hp3 hP hD hS => ?_)
  have hP : va_P (dC, dI) vwCl [(ad 0, .inr (8, xf0 ad)), (ad 23, .inr (5, xf23 ad))] H := hP
  have hD : va_D A [(ad 0, .inr (8, xf0 ad)), (ad 23, .inr (5, xf23 ad))] := hD
  refine W.widen (k := 0) (n := 0) (by decide) (by decide) ?_
  rcases hp3 with ⟨rfl, f4⟩ | ⟨rfl, f5, f6⟩ | ⟨rfl, f7, f8⟩
  · refine lv_if_ne (tgt := 11) hx hb dX8_whom_6 (by decide) (fun c => absurd (by decide) c) (fun _ => ?_)
    refine lv_iconst (v := (-1)) hx hb dX8_whom_9 (by decide) ?_
    have hP9 := hP.sub (ws' := []) [] rfl
    have hD9 := hD.sub (ws' := []) [] (by decide) rfl
    exact z_iret () hx hb hr hlocks hK hP9 hD9 hS hAe hQ rfl (Or.inl (⟨rfl, f4⟩)) dX8_whom_10
  · refine lv_if_ne (tgt := 11) hx hb dX8_whom_6 (by decide) (fun c => absurd (by decide) c) (fun _ => ?_)
    refine lv_iconst (v := (-1)) hx hb dX8_whom_9 (by decide) ?_
    have hP9 := hP.sub (ws' := []) [] rfl
    have hD9 := hD.sub (ws' := []) [] (by decide) rfl
    exact z_iret () hx hb hr hlocks hK hP9 hD9 hS hAe hQ rfl (Or.inr (Or.inl ⟨rfl, f5, f6⟩)) dX8_whom_10
  · refine lv_if_ne (tgt := 11) hx hb dX8_whom_6 (by decide) (fun _ => ?_) (fun c => absurd c (by decide))
    refine lv_iconst (v := 0) hx hb dX8_whom_11 (by decide) ?_
    refine lv_istore_n (lv' := [(2, .int 0), (0, .ref (ad 0)), (1, .int p1)]) hx hb dX8_whom_12 rfl hl (by decide) rfl (fun ls hl => ?_)
    refine lv_iconst (v := 0) hx hb dX8_whom_13 (by decide) ?_
    refine lv_istore_n (lv' := [(3, .int 0), (2, .int 0), (0, .ref (ad 0)), (1, .int p1)]) hx hb dX8_whom_14 rfl hl (by decide) rfl (fun ls hl => ?_)
    refine lv_iload_n hx hb dX8_whom_15 rfl (lv_at hl 0 rfl) ?_
    refine lv_aload_n hx hb dX8_whom_16 rfl (lv_at hl 2 rfl) ?_
    refine va_get (D := (dC, dI)) (ci := 8) (v := .ref (ad 23)) (C := RX8) (T := TX8) (N := 10) hx hb hts hi8 hown hK hP 0 rfl rfl 3 (by decide) hk0 (fun _ h9 => h9) rfl dX8_whom_17 ?_
    refine va_get (D := (dC, dI)) (ci := 5) (v := .int 0) (C := RX5) (T := TX5) (N := 7) hx hb hts hi5 hown hK hP 1 rfl rfl 0 (by decide) hk1 (fun _ h9 => h9) rfl dX8_whom_20 ?_
    refine lv_icmp_ge (tgt := 63) hx hb dX8_whom_23 (by decide) (fun _ => ?_) (fun c => absurd (by decide) c)
    refine lv_iload_n hx hb dX8_whom_63 rfl (lv_at hl 1 rfl) ?_
    have hP9 := hP.sub (ws' := []) [] rfl
    have hD9 := hD.sub (ws' := []) [] (by decide) rfl
    exact z_iret () hx hb hr hlocks hK hP9 hD9 hS hAe hQ rfl (Or.inr (Or.inr ⟨rfl, f7, f8⟩)) dX8_whom_64
set_option maxHeartbeats 4000000 in
set_option maxRecDepth 100000 in
theorem c_X8_truthOf_90 (l : Launch) (dC : Nat → ClassId) (dI : Nat → Nat → Nat) (cB cI cJ cZ cP cQ : ClassId) (ad : Nat → Nat) (sz : Nat) : Met l yX8_truthOf wsX8_truthOf ({ frames := 1, cells := 0, slots := 0, locals := 23 } : Room) (zPc [.ref (ad 0), .ref (ad 23), .int 0] (dC, dI) (zT cB cI cJ cZ cP cQ) [(ad 0, .inr (8, xf0 ad)), (ad 23, .inr (5, xf23 ad))] sz [] []) (va_Ql (fun r _ => (fun r => r = (-9000000000000000000)) r) (zB (dC, dI) (zT cB cI cJ cZ cP cQ) (fun _ : Unit => [(ad 0, .inr (8, xf0 ad)), (ad 23, .inr (5, xf23 ad))]) [(ad 0, .inr (8, xf0 ad)), (ad 23, .inr (5, xf23 ad))] sz) (va_A [(ad 0, .inr (8, xf0 ad)), (ad 23, .inr (5, xf23 ad))] sz)) 0 0 (va_A [(ad 0, .inr (8, xf0 ad)), (ad 23, .inr (5, xf23 ad))] sz) := by
  refine z_enter (cc := cX8_truthOf) (maxL := 8) (ret := (some .long)) (by decide) rfl (Nat.le_of_ble_eq_true rfl) ?_
  intro p e s m below meth c A ls Q H locs hx hb hr hml hown hts hlocks hin hK hP hD hA hX hS hAe hQ hl
  have hown : s.vm.findClass RX8 = some m.cls := hown
  have hi5 : ∀ w ∈ wsX50, w ∈ wsX8_truthOf := fun w h => List.mem_cons_of_mem _ (List.mem_append_left _ (List.mem_append_left _ (List.mem_append_right _ h)))
  have hk0 := hts (.fieldLink RX8 127 "MonthPush$Sheets" "n" "I") (by decide +kernel)
  have hl : lv_has ls 8 [(0, .ref (ad 0)), (1, .ref (ad 23)), (2, .int 0)] := hl
  refine lv_lconst (v := 0) hx hb dX8_truthOf_0 (by decide) ?_
  refine lv_lstore_n (lv' := [(3, .long 0), (0, .ref (ad 0)), (1, .ref (ad 23)), (2, .int 0)]) hx hb dX8_truthOf_1 rfl hl (by decide) rfl (fun ls hl => ?_)
  refine lv_lconst (v := 0) hx hb dX8_truthOf_2 (by decide) ?_
  refine lv_lstore (lv' := [(5, .long 0), (3, .long 0), (0, .ref (ad 0)), (1, .ref (ad 23)), (2, .int 0)]) hx hb dX8_truthOf_3 hl (by decide) rfl (fun ls hl => ?_)
  refine lv_iconst (v := 0) hx hb dX8_truthOf_5 (by decide) ?_
  refine lv_istore (lv' := [(7, .int 0), (5, .long 0), (3, .long 0), (0, .ref (ad 0)), (1, .ref (ad 23)), (2, .int 0)]) hx hb dX8_truthOf_6 hl (by decide) rfl (fun ls hl => ?_)
  refine lv_iload hx hb dX8_truthOf_8 (lv_at hl 0 rfl) ?_
  refine lv_aload_n hx hb dX8_truthOf_10 rfl (lv_at hl 4 rfl) ?_
  refine va_get (D := (dC, dI)) (ci := 5) (v := .int 0) (C := RX5) (T := TX5) (N := 7) hx hb hts hi5 hown hK hP 1 rfl rfl 0 (by decide) hk0 (fun _ h9 => h9) rfl dX8_truthOf_11 ?_
  refine lv_icmp_ge (tgt := 71) hx hb dX8_truthOf_14 (by decide) (fun _ => ?_) (fun c => absurd (by decide) c)
  refine lv_lload_n hx hb dX8_truthOf_71 rfl (lv_at hl 2 rfl) ?_
  refine lv_lload hx hb dX8_truthOf_72 (lv_at hl 1 rfl) ?_
  refine z_finl (w' := fun (u1 : Unit) => [(ad 0, .inr (8, xf0 ad)), (ad 23, .inr (5, xf23 ad))]) (va_runS (As := [.long 0, .long 0]) (rest := []) ⟨hx, hb, hml, hown, hts⟩ (c_X8_thousandths_48 l dC dI cB cI cJ cZ cP cQ H.size) (va_cwS 2 hts gX8_truthOf_X8_thousandths rfl rfl rfl (by decide +kernel) ⟨Nat.le_of_ble_eq_true rfl, Nat.le_of_ble_eq_true rfl⟩) (z_pS hK hP hD zX_nil [] (by decide) rfl) rfl rfl hl.1 rfl (lv_room (Nat.le_of_ble_eq_true rfl)) dX8_truthOf_74 ⟨Nat.le_of_ble_eq_true rfl, Nat.le_of_ble_eq_true rfl⟩) hP hD hS hA [] [0, 1] [0, 1] rfl rfl (by decide) (by decide) (fun _ => rfl) (by decide) (fun r2 u1 H locs hp3 hP hD hS => ?_)
  have hP : va_P (dC, dI) vwCl [(ad 0, .inr (8, xf0 ad)), (ad 23, .inr (5, xf23 ad))] H := hP
  have hD : va_D A [(ad 0, .inr (8, xf0 ad)), (ad 23, .inr (5, xf23 ad))] := hD
  refine W.widen (k := 0) (n := 0) (by decide) (by decide) ?_
  obtain rfl : r2 = (-9000000000000000000) := hp3
  exact z_lret () hx hb hr hlocks hK hP hD hS hAe hQ rfl rfl dX8_truthOf_77
set_option maxHeartbeats 4000000 in
set_option maxRecDepth 100000 in
theorem c_X8_truth_90 (l : Launch) (dC : Nat → ClassId) (dI : Nat → Nat → Nat) (cB cI cJ cZ cP cQ : ClassId) (ad : Nat → Nat) (sz : Nat) : Met l yX8_truth wsX8_truth ({ frames := 2, cells := 0, slots := 0, locals := 50 } : Room) (zPc [.ref (ad 0), .int 0] (dC, dI) (zT cB cI cJ cZ cP cQ) [(ad 0, .inr (8, xf0 ad)), (ad 23, .inr (5, xf23 ad))] sz [] []) (va_Ql (fun r _ => (fun r => r = (-2000000000)) r) (zB (dC, dI) (zT cB cI cJ cZ cP cQ) (fun _ : Unit => []) [(ad 0, .inr (8, xf0 ad)), (ad 23, .inr (5, xf23 ad))] sz) (va_A [(ad 0, .inr (8, xf0 ad)), (ad 23, .inr (5, xf23 ad))] sz)) 0 0 (va_A [(ad 0, .inr (8, xf0 ad)), (ad 23, .inr (5, xf23 ad))] sz) := by
  refine z_enter (cc := cX8_truth) (maxL := 2) (ret := (some .long)) (by decide) rfl (Nat.le_of_ble_eq_true rfl) ?_
  intro p e s m below meth c A ls Q H locs hx hb hr hml hown hts hlocks hin hK hP hD hA hX hS hAe hQ hl
  have hown : s.vm.findClass RX8 = some m.cls := hown
  have hi8 : ∀ w ∈ wsX80, w ∈ wsX8_truth := fun w h => List.mem_cons_of_mem _ (List.mem_append_left _ (List.mem_append_left _ (List.mem_append_right _ h)))
  have hk0 := hts (.fieldLink RX8 29 "MonthPush" "all" "LMonthPush$Sheets;") (by decide +kernel)
  have hl : lv_has ls 2 [(0, .ref (ad 0)), (1, .int 0)] := hl
  refine lv_aload_n hx hb dX8_truth_0 rfl (lv_at hl 0 rfl) ?_
  refine lv_aload_n hx hb dX8_truth_1 rfl (lv_at hl 0 rfl) ?_
  refine va_get (D := (dC, dI)) (ci := 8) (v := .ref (ad 23)) (C := RX8) (T := TX8) (N := 10) hx hb hts hi8 hown hK hP 0 rfl rfl 3 (by decide) hk0 (fun _ h9 => h9) rfl dX8_truth_2 ?_
  refine lv_iload_n hx hb dX8_truth_5 rfl (lv_at hl 1 rfl) ?_
  refine z_finl (w' := fun (u1 : Unit) => [(ad 0, .inr (8, xf0 ad)), (ad 23, .inr (5, xf23 ad))]) (va_runV (As := [.ref (ad 23), .int 0]) (rest := []) ⟨hx, hb, hml, hown, hts⟩ (c_X8_truthOf_90 l dC dI cB cI cJ cZ cP cQ ad H.size) (cwV 2 hts gX8_truth_X8_truthOf rfl rfl rfl (by decide +kernel) ⟨Nat.le_of_ble_eq_true rfl, Nat.le_of_ble_eq_true rfl⟩) (z_pV (ci := 8) hK hP hD zX_nil [0, 1] (by decide) rfl rfl 0 rfl) rfl rfl hl.1 rfl (lv_room (Nat.le_of_ble_eq_true rfl)) dX8_truth_6 ⟨Nat.le_of_ble_eq_true rfl, Nat.le_of_ble_eq_true rfl⟩) hP hD hS hA [0, 1] [] [0, 1] rfl rfl (by decide) (by decide) (fun _ => rfl) (by decide) (fun r2 u1 H locs hp3 hP hD hS => ?_)
  have hP : va_P (dC, dI) vwCl [(ad 0, .inr (8, xf0 ad)), (ad 23, .inr (5, xf23 ad))] H := hP
  have hD : va_D A [(ad 0, .inr (8, xf0 ad)), (ad 23, .inr (5, xf23 ad))] := hD
  refine W.widen (k := 0) (n := 0) (by decide) (by decide) ?_
  obtain rfl : r2 = (-9000000000000000000) := hp3
  refine z_finl (w' := fun (u4 : Unit) => [(ad 0, .inr (8, xf0 ad)), (ad 23, .inr (5, xf23 ad))]) (va_runS (As := [.long (-9000000000000000000)]) (rest := []) ⟨hx, hb, hml, hown, hts⟩ (c_X8_toFace_49 l dC dI cB cI cJ cZ cP cQ H.size) (va_cwS 1 hts gX8_truth_X8_toFace rfl rfl rfl (by decide +kernel) ⟨Nat.le_of_ble_eq_true rfl, Nat.le_of_ble_eq_true rfl⟩) (z_pS hK hP hD zX_nil [] (by decide) rfl) rfl rfl hl.1 rfl (lv_room (Nat.le_of_ble_eq_true rfl)) dX8_truth_9 ⟨Nat.le_of_ble_eq_true rfl, Nat.le_of_ble_eq_true rfl⟩) hP hD hS hA [] [0, 1] [0, 1] rfl rfl (by decide) (by decide) (fun _ => rfl) (by decide) (fun r5 u4 H locs hp6 hP hD hS => ?_)
  have hP : va_P (dC, dI) vwCl [(ad 0, .inr (8, xf0 ad)), (ad 23, .inr (5, xf23 ad))] H := hP
  have hD : va_D A [(ad 0, .inr (8, xf0 ad)), (ad 23, .inr (5, xf23 ad))] := hD
  refine W.widen (k := 0) (n := 0) (by decide) (by decide) ?_
  obtain rfl : r5 = (-2000000000) := hp6
  have hP9 := hP.sub (ws' := []) [] rfl
  have hD9 := hD.sub (ws' := []) [] (by decide) rfl
  exact z_lret () hx hb hr hlocks hK hP9 hD9 hS hAe hQ rfl rfl dX8_truth_12
set_option maxHeartbeats 4000000 in
set_option maxRecDepth 100000 in
theorem c_X8_truthOf_92 (l : Launch) (dC : Nat → ClassId) (dI : Nat → Nat → Nat) (cB cI cJ cZ cP cQ : ClassId) (ad : Nat → Nat) (sz : Nat) : Met l yX8_truthOf wsX8_truthOf ({ frames := 1, cells := 0, slots := 0, locals := 23 } : Room) (zPc [.ref (ad 0), .ref (ad 23), .int 1] (dC, dI) (zT cB cI cJ cZ cP cQ) [(ad 0, .inr (8, xf0 ad)), (ad 23, .inr (5, xf23 ad))] sz [] []) (va_Ql (fun r _ => (fun r => r = (-9000000000000000000)) r) (zB (dC, dI) (zT cB cI cJ cZ cP cQ) (fun _ : Unit => [(ad 0, .inr (8, xf0 ad)), (ad 23, .inr (5, xf23 ad))]) [(ad 0, .inr (8, xf0 ad)), (ad 23, .inr (5, xf23 ad))] sz) (va_A [(ad 0, .inr (8, xf0 ad)), (ad 23, .inr (5, xf23 ad))] sz)) 0 0 (va_A [(ad 0, .inr (8, xf0 ad)), (ad 23, .inr (5, xf23 ad))] sz) := by
  refine z_enter (cc := cX8_truthOf) (maxL := 8) (ret := (some .long)) (by decide) rfl (Nat.le_of_ble_eq_true rfl) ?_
  intro p e s m below meth c A ls Q H locs hx hb hr hml hown hts hlocks hin hK hP hD hA hX hS hAe hQ hl
  have hown : s.vm.findClass RX8 = some m.cls := hown
  have hi5 : ∀ w ∈ wsX50, w ∈ wsX8_truthOf := fun w h => List.mem_cons_of_mem _ (List.mem_append_left _ (List.mem_append_left _ (List.mem_append_right _ h)))
  have hk0 := hts (.fieldLink RX8 127 "MonthPush$Sheets" "n" "I") (by decide +kernel)
  have hl : lv_has ls 8 [(0, .ref (ad 0)), (1, .ref (ad 23)), (2, .int 1)] := hl
  refine lv_lconst (v := 0) hx hb dX8_truthOf_0 (by decide) ?_
  refine lv_lstore_n (lv' := [(3, .long 0), (0, .ref (ad 0)), (1, .ref (ad 23)), (2, .int 1)]) hx hb dX8_truthOf_1 rfl hl (by decide) rfl (fun ls hl => ?_)
  refine lv_lconst (v := 0) hx hb dX8_truthOf_2 (by decide) ?_
  refine lv_lstore (lv' := [(5, .long 0), (3, .long 0), (0, .ref (ad 0)), (1, .ref (ad 23)), (2, .int 1)]) hx hb dX8_truthOf_3 hl (by decide) rfl (fun ls hl => ?_)
  refine lv_iconst (v := 0) hx hb dX8_truthOf_5 (by decide) ?_
  refine lv_istore (lv' := [(7, .int 0), (5, .long 0), (3, .long 0), (0, .ref (ad 0)), (1, .ref (ad 23)), (2, .int 1)]) hx hb dX8_truthOf_6 hl (by decide) rfl (fun ls hl => ?_)
  refine lv_iload hx hb dX8_truthOf_8 (lv_at hl 0 rfl) ?_
  refine lv_aload_n hx hb dX8_truthOf_10 rfl (lv_at hl 4 rfl) ?_
  refine va_get (D := (dC, dI)) (ci := 5) (v := .int 0) (C := RX5) (T := TX5) (N := 7) hx hb hts hi5 hown hK hP 1 rfl rfl 0 (by decide) hk0 (fun _ h9 => h9) rfl dX8_truthOf_11 ?_
  refine lv_icmp_ge (tgt := 71) hx hb dX8_truthOf_14 (by decide) (fun _ => ?_) (fun c => absurd (by decide) c)
  refine lv_lload_n hx hb dX8_truthOf_71 rfl (lv_at hl 2 rfl) ?_
  refine lv_lload hx hb dX8_truthOf_72 (lv_at hl 1 rfl) ?_
  refine z_finl (w' := fun (u1 : Unit) => [(ad 0, .inr (8, xf0 ad)), (ad 23, .inr (5, xf23 ad))]) (va_runS (As := [.long 0, .long 0]) (rest := []) ⟨hx, hb, hml, hown, hts⟩ (c_X8_thousandths_48 l dC dI cB cI cJ cZ cP cQ H.size) (va_cwS 2 hts gX8_truthOf_X8_thousandths rfl rfl rfl (by decide +kernel) ⟨Nat.le_of_ble_eq_true rfl, Nat.le_of_ble_eq_true rfl⟩) (z_pS hK hP hD zX_nil [] (by decide) rfl) rfl rfl hl.1 rfl (lv_room (Nat.le_of_ble_eq_true rfl)) dX8_truthOf_74 ⟨Nat.le_of_ble_eq_true rfl, Nat.le_of_ble_eq_true rfl⟩) hP hD hS hA [] [0, 1] [0, 1] rfl rfl (by decide) (by decide) (fun _ => rfl) (by decide) (fun r2 u1 H locs hp3 hP hD hS => ?_)
  have hP : va_P (dC, dI) vwCl [(ad 0, .inr (8, xf0 ad)), (ad 23, .inr (5, xf23 ad))] H := hP
  have hD : va_D A [(ad 0, .inr (8, xf0 ad)), (ad 23, .inr (5, xf23 ad))] := hD
  refine W.widen (k := 0) (n := 0) (by decide) (by decide) ?_
  obtain rfl : r2 = (-9000000000000000000) := hp3
  exact z_lret () hx hb hr hlocks hK hP hD hS hAe hQ rfl rfl dX8_truthOf_77
set_option maxHeartbeats 4000000 in
set_option maxRecDepth 100000 in
theorem c_X8_truth_92 (l : Launch) (dC : Nat → ClassId) (dI : Nat → Nat → Nat) (cB cI cJ cZ cP cQ : ClassId) (ad : Nat → Nat) (sz : Nat) : Met l yX8_truth wsX8_truth ({ frames := 2, cells := 0, slots := 0, locals := 50 } : Room) (zPc [.ref (ad 0), .int 1] (dC, dI) (zT cB cI cJ cZ cP cQ) [(ad 0, .inr (8, xf0 ad)), (ad 23, .inr (5, xf23 ad))] sz [] []) (va_Ql (fun r _ => (fun r => r = (-2000000000)) r) (zB (dC, dI) (zT cB cI cJ cZ cP cQ) (fun _ : Unit => []) [(ad 0, .inr (8, xf0 ad)), (ad 23, .inr (5, xf23 ad))] sz) (va_A [(ad 0, .inr (8, xf0 ad)), (ad 23, .inr (5, xf23 ad))] sz)) 0 0 (va_A [(ad 0, .inr (8, xf0 ad)), (ad 23, .inr (5, xf23 ad))] sz) := by
  refine z_enter (cc := cX8_truth) (maxL := 2) (ret := (some .long)) (by decide) rfl (Nat.le_of_ble_eq_true rfl) ?_
  intro p e s m below meth c A ls Q H locs hx hb hr hml hown hts hlocks hin hK hP hD hA hX hS hAe hQ hl
  have hown : s.vm.findClass RX8 = some m.cls := hown
  have hi8 : ∀ w ∈ wsX80, w ∈ wsX8_truth := fun w h => List.mem_cons_of_mem _ (List.mem_append_left _ (List.mem_append_left _ (List.mem_append_right _ h)))
  have hk0 := hts (.fieldLink RX8 29 "MonthPush" "all" "LMonthPush$Sheets;") (by decide +kernel)
  have hl : lv_has ls 2 [(0, .ref (ad 0)), (1, .int 1)] := hl
  refine lv_aload_n hx hb dX8_truth_0 rfl (lv_at hl 0 rfl) ?_
  refine lv_aload_n hx hb dX8_truth_1 rfl (lv_at hl 0 rfl) ?_
  refine va_get (D := (dC, dI)) (ci := 8) (v := .ref (ad 23)) (C := RX8) (T := TX8) (N := 10) hx hb hts hi8 hown hK hP 0 rfl rfl 3 (by decide) hk0 (fun _ h9 => h9) rfl dX8_truth_2 ?_
  refine lv_iload_n hx hb dX8_truth_5 rfl (lv_at hl 1 rfl) ?_
  refine z_finl (w' := fun (u1 : Unit) => [(ad 0, .inr (8, xf0 ad)), (ad 23, .inr (5, xf23 ad))]) (va_runV (As := [.ref (ad 23), .int 1]) (rest := []) ⟨hx, hb, hml, hown, hts⟩ (c_X8_truthOf_92 l dC dI cB cI cJ cZ cP cQ ad H.size) (cwV 2 hts gX8_truth_X8_truthOf rfl rfl rfl (by decide +kernel) ⟨Nat.le_of_ble_eq_true rfl, Nat.le_of_ble_eq_true rfl⟩) (z_pV (ci := 8) hK hP hD zX_nil [0, 1] (by decide) rfl rfl 0 rfl) rfl rfl hl.1 rfl (lv_room (Nat.le_of_ble_eq_true rfl)) dX8_truth_6 ⟨Nat.le_of_ble_eq_true rfl, Nat.le_of_ble_eq_true rfl⟩) hP hD hS hA [0, 1] [] [0, 1] rfl rfl (by decide) (by decide) (fun _ => rfl) (by decide) (fun r2 u1 H locs hp3 hP hD hS => ?_)
  have hP : va_P (dC, dI) vwCl [(ad 0, .inr (8, xf0 ad)), (ad 23, .inr (5, xf23 ad))] H := hP
  have hD : va_D A [(ad 0, .inr (8, xf0 ad)), (ad 23, .inr (5, xf23 ad))] := hD
  refine W.widen (k := 0) (n := 0) (by decide) (by decide) ?_
  obtain rfl : r2 = (-9000000000000000000) := hp3
  refine z_finl (w' := fun (u4 : Unit) => [(ad 0, .inr (8, xf0 ad)), (ad 23, .inr (5, xf23 ad))]) (va_runS (As := [.long (-9000000000000000000)]) (rest := []) ⟨hx, hb, hml, hown, hts⟩ (c_X8_toFace_49 l dC dI cB cI cJ cZ cP cQ H.size) (va_cwS 1 hts gX8_truth_X8_toFace rfl rfl rfl (by decide +kernel) ⟨Nat.le_of_ble_eq_true rfl, Nat.le_of_ble_eq_true rfl⟩) (z_pS hK hP hD zX_nil [] (by decide) rfl) rfl rfl hl.1 rfl (lv_room (Nat.le_of_ble_eq_true rfl)) dX8_truth_9 ⟨Nat.le_of_ble_eq_true rfl, Nat.le_of_ble_eq_true rfl⟩) hP hD hS hA [] [0, 1] [0, 1] rfl rfl (by decide) (by decide) (fun _ => rfl) (by decide) (fun r5 u4 H locs hp6 hP hD hS => ?_)
  have hP : va_P (dC, dI) vwCl [(ad 0, .inr (8, xf0 ad)), (ad 23, .inr (5, xf23 ad))] H := hP
  have hD : va_D A [(ad 0, .inr (8, xf0 ad)), (ad 23, .inr (5, xf23 ad))] := hD
  refine W.widen (k := 0) (n := 0) (by decide) (by decide) ?_
  obtain rfl : r5 = (-2000000000) := hp6
  have hP9 := hP.sub (ws' := []) [] rfl
  have hD9 := hD.sub (ws' := []) [] (by decide) rfl
  exact z_lret () hx hb hr hlocks hK hP9 hD9 hS hAe hQ rfl rfl dX8_truth_12
set_option maxHeartbeats 4000000 in
set_option maxRecDepth 100000 in
theorem c_X8_estimateOf_95 (l : Launch) (dC : Nat → ClassId) (dI : Nat → Nat → Nat) (cB cI cJ cZ cP cQ : ClassId) (ad : Nat → Nat) (sz : Nat) (p1 : Int32) (p2 : Int32) : Met l yX8_estimateOf wsX8_estimateOf ({ frames := 3, cells := 0, slots := 0, locals := 74 } : Room) (zPc [.ref (ad 0), .int p1, .int p2] (dC, dI) (zT cB cI cJ cZ cP cQ) [(ad 0, .inr (8, xf0 ad)), (ad 23, .inr (5, xf23 ad)), (ad 38, .inr (6, xf38 ad)), (ad 39, .inr (1, xf39 ad)), (ad 40, .inl (cJ, 72, .inr (.inl (fun _ => 0)))), (ad 41, .inl (cJ, 72, .inr (.inl (fun _ => 0)))), (ad 42, .inl (cJ, 72, .inr (.inl (fun _ => 0))))] sz [(RX1, 44, yX8_thousandths, "MonthPush")] []) (va_Ql (fun r _ => (fun r => (r = (-9000000000000000000) ∧ p1.toInt = 0) ∨ (r = (-9000000000000000000) ∧ p1.toInt = 1 ∧ p2.toInt < 1) ∨ (r = (-9000000000000000000) ∧ p1.toInt = 1 ∧ 1 ≤ p2.toInt ∧ 4094 < p2.toInt) ∨ (r = (-9000000000000000000) ∧ p1.toInt = 1 ∧ 1 ≤ p2.toInt ∧ p2.toInt ≤ 4094) ∨ (r = (-9000000000000000000) ∧ p1.toInt = 2) ∨ (r = (-9000000000000000000) ∧ (p1.toInt < 0 ∨ 2 < p1.toInt))) r) (zB (dC, dI) (zT cB cI cJ cZ cP cQ) (fun _ : Unit => [(ad 0, .inr (8, xf0 ad)), (ad 23, .inr (5, xf23 ad)), (ad 38, .inr (6, xf38 ad)), (ad 39, .inr (1, xf39 ad)), (ad 40, .inl (cJ, 72, .inr (.inl (fun _ => 0)))), (ad 41, .inl (cJ, 72, .inr (.inl (fun _ => 0)))), (ad 42, .inl (cJ, 72, .inr (.inl (fun _ => 0))))]) [(ad 0, .inr (8, xf0 ad)), (ad 23, .inr (5, xf23 ad)), (ad 38, .inr (6, xf38 ad)), (ad 39, .inr (1, xf39 ad)), (ad 40, .inl (cJ, 72, .inr (.inl (fun _ => 0)))), (ad 41, .inl (cJ, 72, .inr (.inl (fun _ => 0)))), (ad 42, .inl (cJ, 72, .inr (.inl (fun _ => 0))))] sz) (va_A [(ad 0, .inr (8, xf0 ad)), (ad 23, .inr (5, xf23 ad)), (ad 38, .inr (6, xf38 ad)), (ad 39, .inr (1, xf39 ad)), (ad 40, .inl (cJ, 72, .inr (.inl (fun _ => 0)))), (ad 41, .inl (cJ, 72, .inr (.inl (fun _ => 0)))), (ad 42, .inl (cJ, 72, .inr (.inl (fun _ => 0))))] sz)) 0 0 (va_A [(ad 0, .inr (8, xf0 ad)), (ad 23, .inr (5, xf23 ad)), (ad 38, .inr (6, xf38 ad)), (ad 39, .inr (1, xf39 ad)), (ad 40, .inl (cJ, 72, .inr (.inl (fun _ => 0)))), (ad 41, .inl (cJ, 72, .inr (.inl (fun _ => 0)))), (ad 42, .inl (cJ, 72, .inr (.inl (fun _ => 0))))] sz) := by
  refine z_enter (cc := cX8_estimateOf) (maxL := 3) (ret := (some .long)) (by decide) rfl (Nat.le_of_ble_eq_true rfl) ?_
  intro p e s m below meth c A ls Q H locs hx hb hr hml hown hts hlocks hin hK hP hD hA hX hS hAe hQ hl
  have hown : s.vm.findClass RX8 = some m.cls := hown
  have hi8 : ∀ w ∈ wsX80, w ∈ wsX8_estimateOf := fun w h => List.mem_cons_of_mem _ (List.mem_append_left _ (List.mem_append_left _ (List.mem_append_left _ (List.mem_append_right _ h))))
  have hk0 := hts (.fieldLink RX8 29 "MonthPush" "all" "LMonthPush$Sheets;") (by decide +kernel)
  have hk1 := hts (.constantLong RX8 282 (-9000000000000000000)) (by decide +kernel)
  have hl : lv_has ls 3 [(0, .ref (ad 0)), (1, .int p1), (2, .int p2)] := hl
  refine lv_iload_n hx hb dX8_estimateOf_0 rfl (lv_at hl 1 rfl) ?_
  rcases (show p1.toInt = 0 ∨ p1.toInt = 1 ∨ p1.toInt = 2 ∨ (p1.toInt < 0 ∨ 2 < p1.toInt) by omega) with f1 | f1 | f1 | f1
  · refine lv_tableIn (off := 27) (tgt := 28) hx hb dX8_estimateOf_1 (by rw [f1]; decide) (by rw [f1]; decide) (by rw [f1]; decide) (by decide) ?_
    refine lv_aload_n hx hb dX8_estimateOf_28 rfl (lv_at hl 0 rfl) ?_
    refine z_finl (w' := fun (u2 : Unit) => [(ad 0, .inr (8, xf0 ad)), (ad 23, .inr (5, xf23 ad)), (ad 38, .inr (6, xf38 ad)), (ad 39, .inr (1, xf39 ad)), (ad 40, .inl (cJ, 72, .inr (.inl (fun _ => 0)))), (ad 41, .inl (cJ, 72, .inr (.inl (fun _ => 0)))), (ad 42, .inl (cJ, 72, .inr (.inl (fun _ => 0))))]) (va_runV (As := []) (rest := []) ⟨hx, hb, hml, hown, hts⟩ (c_X8_plainOf_48 l dC dI cB cI cJ cZ cP cQ ad H.size) (cwV 0 hts gX8_estimateOf_X8_plainOf rfl rfl rfl (by decide +kernel) ⟨Nat.le_of_ble_eq_true rfl, Nat.le_of_ble_eq_true rfl⟩) (z_pV (ci := 8) hK hP hD zX_nil [0, 1, 2] (by decide) rfl rfl 0 rfl) rfl rfl hl.1 rfl (lv_room (Nat.le_of_ble_eq_true rfl)) dX8_estimateOf_29 ⟨Nat.le_of_ble_eq_true rfl, Nat.le_of_ble_eq_true rfl⟩) hP hD hS hA [0, 1, 2] [3, 4, 5, 6] [4, 5, 6, 0, 1, 2, 3] rfl rfl (by decide) (by decide) (fun _ => rfl) (by decide) (fun r3 u2 H locs hp4 hP hD hS => ?_)
    have hP : va_P (dC, dI) vwCl [(ad 0, .inr (8, xf0 ad)), (ad 23, .inr (5, xf23 ad)), (ad 38, .inr (6, xf38 ad)), (ad 39, .inr (1, xf39 ad)), (ad 40, .inl (cJ, 72, .inr (.inl (fun _ => 0)))), (ad 41, .inl (cJ, 72, .inr (.inl (fun _ => 0)))), (ad 42, .inl (cJ, 72, .inr (.inl (fun _ => 0))))] H := hP
    have hD : va_D A [(ad 0, .inr (8, xf0 ad)), (ad 23, .inr (5, xf23 ad)), (ad 38, .inr (6, xf38 ad)), (ad 39, .inr (1, xf39 ad)), (ad 40, .inl (cJ, 72, .inr (.inl (fun _ => 0)))), (ad 41, .inl (cJ, 72, .inr (.inl (fun _ => 0)))), (ad 42, .inl (cJ, 72, .inr (.inl (fun _ => 0))))] := hD
    refine W.widen (k := 0) (n := 0) (by decide) (by decide) ?_
    obtain rfl : r3 = (-9000000000000000000) := hp4
    exact z_lret () hx hb hr hlocks hK hP hD hS hAe hQ rfl (Or.inl (⟨rfl, f1⟩)) dX8_estimateOf_32
  · refine lv_tableIn (off := 32) (tgt := 33) hx hb dX8_estimateOf_1 (by rw [f1]; decide) (by rw [f1]; decide) (by rw [f1]; decide) (by decide) ?_
    refine lv_aload_n hx hb dX8_estimateOf_33 rfl (lv_at hl 0 rfl) ?_
    refine lv_aload_n hx hb dX8_estimateOf_34 rfl (lv_at hl 0 rfl) ?_
    refine va_get (D := (dC, dI)) (ci := 8) (v := .ref (ad 23)) (C := RX8) (T := TX8) (N := 10) hx hb hts hi8 hown hK hP 0 rfl rfl 3 (by decide) hk0 (fun _ h9 => h9) rfl dX8_estimateOf_35 ?_
    refine lv_iload_n hx hb dX8_estimateOf_38 rfl (lv_at hl 2 rfl) ?_
    refine z_finr (w' := fun (u5 : Unit) => [(ad 0, .inr (8, xf0 ad)), (ad 23, .inr (5, xf23 ad)), (ad 38, .inr (6, xf38 ad)), (ad 39, .inr (1, xf39 ad)), (ad 40, .inl (cJ, 72, .inr (.inl (fun _ => 0)))), (ad 41, .inl (cJ, 72, .inr (.inl (fun _ => 0)))), (ad 42, .inl (cJ, 72, .inr (.inl (fun _ => 0))))]) (va_runV (As := [.ref (ad 23), .int p2]) (rest := []) ⟨hx, hb, hml, hown, hts⟩ (c_X8_divided_53 l dC dI cB cI cJ cZ cP cQ ad H.size p2) (cwV 2 hts gX8_estimateOf_X8_divided rfl rfl rfl (by decide +kernel) ⟨Nat.le_of_ble_eq_true rfl, Nat.le_of_ble_eq_true rfl⟩) (z_pV (ci := 8) hK hP hD zX_nil [0, 1, 2] (by decide) rfl rfl 0 rfl) rfl rfl hl.1 rfl (lv_room (Nat.le_of_ble_eq_true rfl)) dX8_estimateOf_39 ⟨Nat.le_of_ble_eq_true rfl, Nat.le_of_ble_eq_true rfl⟩) hP hD hS hA [0, 1, 2] [3, 4, 5, 6] [4, 5, 6, 0, 1, 2, 3] rfl rfl (by decide) (by decide) (fun _ => rfl) (by decide) (fun u5 H locs hp7 hP hD hS => ?_)
    have hP : va_P (dC, dI) vwCl [(ad 0, .inr (8, xf0 ad)), (ad 23, .inr (5, xf23 ad)), (ad 38, .inr (6, xf38 ad)), (ad 39, .inr (1, xf39 ad)), (ad 40, .inl (cJ, 72, .inr (.inl (fun _ => 0)))), (ad 41, .inl (cJ, 72, .inr (.inl (fun _ => 0)))), (ad 42, .inl (cJ, 72, .inr (.inl (fun _ => 0))))] H := hP
    have hD : va_D A [(ad 0, .inr (8, xf0 ad)), (ad 23, .inr (5, xf23 ad)), (ad 38, .inr (6, xf38 ad)), (ad 39, .inr (1, xf39 ad)), (ad 40, .inl (cJ, 72, .inr (.inl (fun _ => 0)))), (ad 41, .inl (cJ, 72, .inr (.inl (fun _ => 0)))), (ad 42, .inl (cJ, 72, .inr (.inl (fun _ => 0))))] := hD
    refine W.widen (k := 0) (n := 0) (by decide) (by decide) ?_
    rcases hp7 with f8 | ⟨f9, f10⟩ | ⟨f11, f12⟩
    · refine z_finl (w' := fun (u13 : Unit) => [(ad 0, .inr (8, xf0 ad)), (ad 23, .inr (5, xf23 ad)), (ad 38, .inr (6, xf38 ad)), (ad 39, .inr (1, xf39 ad)), (ad 40, .inl (cJ, 72, .inr (.inl (fun _ => 0)))), (ad 41, .inl (cJ, 72, .inr (.inl (fun _ => 0)))), (ad 42, .inl (cJ, 72, .inr (.inl (fun _ => 0))))]) (va_runV (As := []) (rest := []) ⟨hx, hb, hml, hown, hts⟩ (c_X6_byMoved_57 l dC dI cB cI cJ cZ cP cQ ad H.size) (cwV 0 hts gX8_estimateOf_X6_byMoved rfl rfl rfl (by decide +kernel) ⟨Nat.le_of_ble_eq_true rfl, Nat.le_of_ble_eq_true rfl⟩) (z_pV (ci := 6) hK hP hD zX_nil [2] (by decide) rfl rfl 2 rfl) rfl rfl hl.1 rfl (lv_room (Nat.le_of_ble_eq_true rfl)) dX8_estimateOf_42 ⟨Nat.le_of_ble_eq_true rfl, Nat.le_of_ble_eq_true rfl⟩) hP hD hS hA [2] [0, 1, 3, 4, 5, 6] [0, 1, 6, 2, 3, 4, 5] rfl rfl (by decide) (by decide) (fun _ => rfl) (by decide) (fun r14 u13 H locs hp15 hP hD hS => ?_)
      have hP : va_P (dC, dI) vwCl [(ad 0, .inr (8, xf0 ad)), (ad 23, .inr (5, xf23 ad)), (ad 38, .inr (6, xf38 ad)), (ad 39, .inr (1, xf39 ad)), (ad 40, .inl (cJ, 72, .inr (.inl (fun _ => 0)))), (ad 41, .inl (cJ, 72, .inr (.inl (fun _ => 0)))), (ad 42, .inl (cJ, 72, .inr (.inl (fun _ => 0))))] H := hP
      have hD : va_D A [(ad 0, .inr (8, xf0 ad)), (ad 23, .inr (5, xf23 ad)), (ad 38, .inr (6, xf38 ad)), (ad 39, .inr (1, xf39 ad)), (ad 40, .inl (cJ, 72, .inr (.inl (fun _ => 0)))), (ad 41, .inl (cJ, 72, .inr (.inl (fun _ => 0)))), (ad 42, .inl (cJ, 72, .inr (.inl (fun _ => 0))))] := hD
      refine W.widen (k := 0) (n := 0) (by decide) (by decide) ?_
      obtain rfl : r14 = (-9000000000000000000) := hp15
      exact z_lret () hx hb hr hlocks hK hP hD hS hAe hQ rfl (Or.inr (Or.inl ⟨rfl, f1, f8⟩)) dX8_estimateOf_45
    · refine z_finl (w' := fun (u16 : Unit) => [(ad 0, .inr (8, xf0 ad)), (ad 23, .inr (5, xf23 ad)), (ad 38, .inr (6, xf38 ad)), (ad 39, .inr (1, xf39 ad)), (ad 40, .inl (cJ, 72, .inr (.inl (fun _ => 0)))), (ad 41, .inl (cJ, 72, .inr (.inl (fun _ => 0)))), (ad 42, .inl (cJ, 72, .inr (.inl (fun _ => 0))))]) (va_runV (As := []) (rest := []) ⟨hx, hb, hml, hown, hts⟩ (c_X6_byMoved_57 l dC dI cB cI cJ cZ cP cQ ad H.size) (cwV 0 hts gX8_estimateOf_X6_byMoved rfl rfl rfl (by decide +kernel) ⟨Nat.le_of_ble_eq_true rfl, Nat.le_of_ble_eq_true rfl⟩) (z_pV (ci := 6) hK hP hD zX_nil [2] (by decide) rfl rfl 2 rfl) rfl rfl hl.1 rfl (lv_room (Nat.le_of_ble_eq_true rfl)) dX8_estimateOf_42 ⟨Nat.le_of_ble_eq_true rfl, Nat.le_of_ble_eq_true rfl⟩) hP hD hS hA [2] [0, 1, 3, 4, 5, 6] [0, 1, 6, 2, 3, 4, 5] rfl rfl (by decide) (by decide) (fun _ => rfl) (by decide) (fun r17 u16 H locs hp18 hP hD hS => ?_)
      have hP : va_P (dC, dI) vwCl [(ad 0, .inr (8, xf0 ad)), (ad 23, .inr (5, xf23 ad)), (ad 38, .inr (6, xf38 ad)), (ad 39, .inr (1, xf39 ad)), (ad 40, .inl (cJ, 72, .inr (.inl (fun _ => 0)))), (ad 41, .inl (cJ, 72, .inr (.inl (fun _ => 0)))), (ad 42, .inl (cJ, 72, .inr (.inl (fun _ => 0))))] H := hP
      have hD : va_D A [(ad 0, .inr (8, xf0 ad)), (ad 23, .inr (5, xf23 ad)), (ad 38, .inr (6, xf38 ad)), (ad 39, .inr (1, xf39 ad)), (ad 40, .inl (cJ, 72, .inr (.inl (fun _ => 0)))), (ad 41, .inl (cJ, 72, .inr (.inl (fun _ => 0)))), (ad 42, .inl (cJ, 72, .inr (.inl (fun _ => 0))))] := hD
      refine W.widen (k := 0) (n := 0) (by decide) (by decide) ?_
      obtain rfl : r17 = (-9000000000000000000) := hp18
      exact z_lret () hx hb hr hlocks hK hP hD hS hAe hQ rfl (Or.inr (Or.inr (Or.inl ⟨rfl, f1, f9, f10⟩))) dX8_estimateOf_45
    · refine z_finl (w' := fun (u19 : Unit) => [(ad 0, .inr (8, xf0 ad)), (ad 23, .inr (5, xf23 ad)), (ad 38, .inr (6, xf38 ad)), (ad 39, .inr (1, xf39 ad)), (ad 40, .inl (cJ, 72, .inr (.inl (fun _ => 0)))), (ad 41, .inl (cJ, 72, .inr (.inl (fun _ => 0)))), (ad 42, .inl (cJ, 72, .inr (.inl (fun _ => 0))))]) (va_runV (As := []) (rest := []) ⟨hx, hb, hml, hown, hts⟩ (c_X6_byMoved_57 l dC dI cB cI cJ cZ cP cQ ad H.size) (cwV 0 hts gX8_estimateOf_X6_byMoved rfl rfl rfl (by decide +kernel) ⟨Nat.le_of_ble_eq_true rfl, Nat.le_of_ble_eq_true rfl⟩) (z_pV (ci := 6) hK hP hD zX_nil [2] (by decide) rfl rfl 2 rfl) rfl rfl hl.1 rfl (lv_room (Nat.le_of_ble_eq_true rfl)) dX8_estimateOf_42 ⟨Nat.le_of_ble_eq_true rfl, Nat.le_of_ble_eq_true rfl⟩) hP hD hS hA [2] [0, 1, 3, 4, 5, 6] [0, 1, 6, 2, 3, 4, 5] rfl rfl (by decide) (by decide) (fun _ => rfl) (by decide) (fun r20 u19 H locs hp21 hP hD hS => ?_)
      have hP : va_P (dC, dI) vwCl [(ad 0, .inr (8, xf0 ad)), (ad 23, .inr (5, xf23 ad)), (ad 38, .inr (6, xf38 ad)), (ad 39, .inr (1, xf39 ad)), (ad 40, .inl (cJ, 72, .inr (.inl (fun _ => 0)))), (ad 41, .inl (cJ, 72, .inr (.inl (fun _ => 0)))), (ad 42, .inl (cJ, 72, .inr (.inl (fun _ => 0))))] H := hP
      have hD : va_D A [(ad 0, .inr (8, xf0 ad)), (ad 23, .inr (5, xf23 ad)), (ad 38, .inr (6, xf38 ad)), (ad 39, .inr (1, xf39 ad)), (ad 40, .inl (cJ, 72, .inr (.inl (fun _ => 0)))), (ad 41, .inl (cJ, 72, .inr (.inl (fun _ => 0)))), (ad 42, .inl (cJ, 72, .inr (.inl (fun _ => 0))))] := hD
      refine W.widen (k := 0) (n := 0) (by decide) (by decide) ?_
      obtain rfl : r20 = (-9000000000000000000) := hp21
      exact z_lret () hx hb hr hlocks hK hP hD hS hAe hQ rfl (Or.inr (Or.inr (Or.inr (Or.inl ⟨rfl, f1, f11, f12⟩)))) dX8_estimateOf_45
  · refine lv_tableIn (off := 45) (tgt := 46) hx hb dX8_estimateOf_1 (by rw [f1]; decide) (by rw [f1]; decide) (by rw [f1]; decide) (by decide) ?_
    refine lv_aload_n hx hb dX8_estimateOf_46 rfl (lv_at hl 0 rfl) ?_
    refine z_finl (w' := fun (u22 : Unit) => [(ad 0, .inr (8, xf0 ad)), (ad 23, .inr (5, xf23 ad)), (ad 38, .inr (6, xf38 ad)), (ad 39, .inr (1, xf39 ad)), (ad 40, .inl (cJ, 72, .inr (.inl (fun _ => 0)))), (ad 41, .inl (cJ, 72, .inr (.inl (fun _ => 0)))), (ad 42, .inl (cJ, 72, .inr (.inl (fun _ => 0))))]) (va_runV (As := []) (rest := []) ⟨hx, hb, hml, hown, hts⟩ (c_X8_manyOf_61 l dC dI cB cI cJ cZ cP cQ ad H.size) (cwV 0 hts gX8_estimateOf_X8_manyOf rfl rfl rfl (by decide +kernel) ⟨Nat.le_of_ble_eq_true rfl, Nat.le_of_ble_eq_true rfl⟩) (z_pV (ci := 8) hK hP hD (zX_sub hX (by decide +kernel) (by decide +kernel)) [0, 1, 3, 4, 5, 6] (by decide) rfl rfl 0 rfl) rfl rfl hl.1 rfl (lv_room (Nat.le_of_ble_eq_true rfl)) dX8_estimateOf_47 ⟨Nat.le_of_ble_eq_true rfl, Nat.le_of_ble_eq_true rfl⟩) hP hD hS hA [0, 1, 3, 4, 5, 6] [2] [1, 2, 0, 3, 4, 5, 6] rfl rfl (by decide) (by decide) (fun _ => rfl) (by decide) (fun r23 u22 H locs hp24 hP hD hS => ?_)
    have hP : va_P (dC, dI) vwCl [(ad 0, .inr (8, xf0 ad)), (ad 23, .inr (5, xf23 ad)), (ad 38, .inr (6, xf38 ad)), (ad 39, .inr (1, xf39 ad)), (ad 40, .inl (cJ, 72, .inr (.inl (fun _ => 0)))), (ad 41, .inl (cJ, 72, .inr (.inl (fun _ => 0)))), (ad 42, .inl (cJ, 72, .inr (.inl (fun _ => 0))))] H := hP
    have hD : va_D A [(ad 0, .inr (8, xf0 ad)), (ad 23, .inr (5, xf23 ad)), (ad 38, .inr (6, xf38 ad)), (ad 39, .inr (1, xf39 ad)), (ad 40, .inl (cJ, 72, .inr (.inl (fun _ => 0)))), (ad 41, .inl (cJ, 72, .inr (.inl (fun _ => 0)))), (ad 42, .inl (cJ, 72, .inr (.inl (fun _ => 0))))] := hD
    refine W.widen (k := 0) (n := 0) (by decide) (by decide) ?_
    obtain rfl : r23 = (-9000000000000000000) := hp24
    exact z_lret () hx hb hr hlocks hK hP hD hS hAe hQ rfl (Or.inr (Or.inr (Or.inr (Or.inr (Or.inl ⟨rfl, f1⟩))))) dX8_estimateOf_50
  · refine lv_tableOut (tgt := 51) hx hb dX8_estimateOf_1 f1 (by decide) ?_
    refine lv_ldc2 hx hb hown hk1 dX8_estimateOf_51 ?_
    exact z_lret () hx hb hr hlocks hK hP hD hS hAe hQ rfl (Or.inr (Or.inr (Or.inr (Or.inr (Or.inr ⟨rfl, f1⟩))))) dX8_estimateOf_54
