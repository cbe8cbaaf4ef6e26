set_option maxHeartbeats 4000000 in
set_option maxRecDepth 100000 in
theorem c_X9_begins_158 (l : Launch) (dC : Nat → ClassId) (dI : Nat → Nat → Nat) (cB cI cJ cZ cP cQ : ClassId) (am : Nat → Nat) (sz : Nat) : Met l yX9_begins wsX9_begins ({ frames := 2, cells := 0, slots := 0, locals := 44 } : Room) (zPc [.ref (am 0)] (dC, dI) (zT cB cI cJ cZ cP cQ) [(am 0, .inr (9, mf0 am))] sz [] []) (va_Qv (fun _ => True) (zB (dC, dI) (zT cB cI cJ cZ cP cQ) (fun _ : Unit => [(am 0, .inr (9, ((mf0 am).set 13 (.int (-1)))))]) [(am 0, .inr (9, mf0 am))] sz) (va_A [(am 0, .inr (9, mf0 am))] sz)) 0 0 (va_A [(am 0, .inr (9, mf0 am))] sz) := by
  refine z_enter (cc := cX9_begins) (maxL := 1) (ret := none) (by decide) rfl (Nat.le_of_ble_eq_true rfl) ?_
  intro p e s m below meth c A ls Q H locs hx hb hr hml hown hts hlocks hin hK hP hD hA hX hS hAe hQ hl
  have hown : s.vm.findClass RX9 = some m.cls := hown
  have hi9 : ∀ w ∈ wsX90, w ∈ wsX9_begins := fun w h => List.mem_cons_of_mem _ (List.mem_append_right _ h)
  have hk0 := hts (.fieldLink RX9 177 "MonthPushModel" "bad" "I") (by decide +kernel)
  have hk1 := hts (.fieldLink RX9 180 "MonthPushModel" "badPlace" "I") (by decide +kernel)
  have hk2 := hts (.fieldLink RX9 149 "MonthPushModel" "at" "I") (by decide +kernel)
  have hl : lv_has ls 1 [(0, .ref (am 0))] := hl
  refine lv_aload_n hx hb dX9_begins_0 rfl (lv_at hl 0 rfl) ?_
  refine lv_iconst (v := 0) hx hb dX9_begins_1 (by decide) ?_
  refine z_put0 (D := (dC, dI)) (ci := 9) (v := .int 0) (ty := .int) (C := RX9) (T := TX9) (N := 60) hx hb hts hi9 tyX9 tyX9_ok nmX9 hown hK hP hD hS 0 rfl rfl 12 (by decide) hk0 (fun _ h9 => h9) rfl (by decide +kernel) rfl rfl rfl dX9_begins_2 (fun H locs hP hS => ?_)
  refine lv_aload_n hx hb dX9_begins_5 rfl (lv_at hl 0 rfl) ?_
  refine lv_iconst (v := (-1)) hx hb dX9_begins_6 (by decide) ?_
  refine va_put (D := (dC, dI)) (ci := 9) (v := .int (-1)) (ty := .int) (C := RX9) (T := TX9) (N := 60) hx hb hts hi9 tyX9 tyX9_ok nmX9 hown hK hP hD hS 0 rfl rfl 13 (by decide) hk1 (fun _ h9 => h9) rfl (by decide +kernel) rfl rfl (Nat.le_of_ble_eq_true rfl) dX9_begins_7 (fun H locs hP hD hS => ?_)
  have hP : va_P (dC, dI) vwCl [(am 0, .inr (9, ((mf0 am).set 13 (.int (-1)))))] H := hP
  have hD : va_D A [(am 0, .inr (9, ((mf0 am).set 13 (.int (-1)))))] := hD
  refine lv_aload_n hx hb dX9_begins_10 rfl (lv_at hl 0 rfl) ?_
  refine lv_iconst (v := 0) hx hb dX9_begins_11 (by decide) ?_
  refine z_put0 (D := (dC, dI)) (ci := 9) (v := .int 0) (ty := .int) (C := RX9) (T := TX9) (N := 60) hx hb hts hi9 tyX9 tyX9_ok nmX9 hown hK hP hD hS 0 rfl rfl 7 (by decide) hk2 (fun _ h9 => h9) rfl (by decide +kernel) rfl rfl rfl dX9_begins_12 (fun H locs hP hS => ?_)
  refine lv_aload_n hx hb dX9_begins_15 rfl (lv_at hl 0 rfl) ?_
  refine z_finv (w' := fun (u1 : Unit) => [(am 0, .inr (9, ((mf0 am).set 13 (.int (-1)))))]) (va_runV (As := []) (rest := []) ⟨hx, hb, hml, hown, hts⟩ (c_X9_next_158 l dC dI cB cI cJ cZ cP cQ am H.size) (cwV 0 hts gX9_begins_X9_next rfl rfl rfl (by decide +kernel) ⟨Nat.le_of_ble_eq_true rfl, Nat.le_of_ble_eq_true rfl⟩) (z_pV (ci := 9) hK hP hD zX_nil [0] (by decide) rfl rfl 0 rfl) rfl rfl hl.1 rfl (lv_room (Nat.le_of_ble_eq_true rfl)) dX9_begins_16 ⟨Nat.le_of_ble_eq_true rfl, Nat.le_of_ble_eq_true rfl⟩) hP hD hS hA [0] [] [0] rfl rfl (by decide) (by decide) (fun _ => rfl) (by decide) (fun u1 H locs hp3 hP hD hS => ?_)
  have hP : va_P (dC, dI) vwCl [(am 0, .inr (9, ((mf0 am).set 13 (.int (-1)))))] H := hP
  have hD : va_D A [(am 0, .inr (9, ((mf0 am).set 13 (.int (-1)))))] := hD
  refine W.widen (k := 0) (n := 0) (by decide) (by decide) ?_
  exact z_vret () hx hb hr hlocks hK hP hD hS hAe hQ rfl trivial dX9_begins_19
set_option maxHeartbeats 4000000 in
set_option maxRecDepth 100000 in
theorem c_X9_isGood_159 (l : Launch) (dC : Nat → ClassId) (dI : Nat → Nat → Nat) (cB cI cJ cZ cP cQ : ClassId) (am : Nat → Nat) (sz : Nat) : Met l yX9_isGood wsX9_isGood ({ frames := 0, cells := 0, slots := 0, locals := 0 } : Room) (zPc [.ref (am 0)] (dC, dI) (zT cB cI cJ cZ cP cQ) [(am 0, .inr (9, ((mf0 am).set 13 (.int (-1)))))] sz [] []) (va_Qi (fun r _ => (fun r => r = 1) r) (zB (dC, dI) (zT cB cI cJ cZ cP cQ) (fun _ : Unit => [(am 0, .inr (9, ((mf0 am).set 13 (.int (-1)))))]) [(am 0, .inr (9, ((mf0 am).set 13 (.int (-1)))))] sz) (va_A [(am 0, .inr (9, ((mf0 am).set 13 (.int (-1)))))] sz)) 0 0 (va_A [(am 0, .inr (9, ((mf0 am).set 13 (.int (-1)))))] sz) := by
  refine z_enter (cc := cX9_isGood) (maxL := 1) (ret := (some .boolean)) (by decide) rfl (Nat.le_of_ble_eq_true rfl) ?_
  intro p e s m below meth c A ls Q H locs hx hb hr hml hown hts hlocks hin hK hP hD hA hX hS hAe hQ hl
  have hown : s.vm.findClass RX9 = some m.cls := hown
  have hi9 : ∀ w ∈ wsX90, w ∈ wsX9_isGood := fun w h => List.mem_cons_of_mem _ (List.mem_append_right _ h)
  have hk0 := hts (.fieldLink RX9 177 "MonthPushModel" "bad" "I") (by decide +kernel)
  have hl : lv_has ls 1 [(0, .ref (am 0))] := hl
  refine lv_aload_n hx hb dX9_isGood_0 rfl (lv_at hl 0 rfl) ?_
  refine va_get (D := (dC, dI)) (ci := 9) (v := .int 0) (C := RX9) (T := TX9) (N := 60) hx hb hts hi9 hown hK hP 0 rfl rfl 12 (by decide) hk0 (fun _ h9 => h9) rfl dX9_isGood_1 ?_
  refine lv_if_ne (tgt := 11) hx hb dX9_isGood_4 (by decide) (fun c => absurd (by decide) c) (fun _ => ?_)
  refine lv_iconst (v := 1) hx hb dX9_isGood_7 (by decide) ?_
  refine lv_goto (tgt := 12) hx hb dX9_isGood_8 (by decide) ?_
  exact z_zret () hx hb hr hlocks hK hP hD hS hAe hQ rfl rfl (by decide) dX9_isGood_12
set_option maxHeartbeats 4000000 in
set_option maxRecDepth 100000 in
theorem c_X9_isOver_160 (l : Launch) (dC : Nat → ClassId) (dI : Nat → Nat → Nat) (cB cI cJ cZ cP cQ : ClassId) (am : Nat → Nat) (sz : Nat) : Met l yX9_isOver wsX9_isOver ({ frames := 0, cells := 0, slots := 0, locals := 0 } : Room) (zPc [.ref (am 0)] (dC, dI) (zT cB cI cJ cZ cP cQ) [(am 0, .inr (9, ((mf0 am).set 13 (.int (-1)))))] sz [] []) (va_Qv (fun _ => True) (zB (dC, dI) (zT cB cI cJ cZ cP cQ) (fun _ : Unit => [(am 0, .inr (9, ((mf0 am).set 13 (.int (-1)))))]) [(am 0, .inr (9, ((mf0 am).set 13 (.int (-1)))))] sz) (va_A [(am 0, .inr (9, ((mf0 am).set 13 (.int (-1)))))] sz)) 0 0 (va_A [(am 0, .inr (9, ((mf0 am).set 13 (.int (-1)))))] sz) := by
  refine z_enter (cc := cX9_isOver) (maxL := 1) (ret := none) (by decide) rfl (Nat.le_of_ble_eq_true rfl) ?_
  intro p e s m below meth c A ls Q H locs hx hb hr hml hown hts hlocks hin hK hP hD hA hX hS hAe hQ hl
  have hown : s.vm.findClass RX9 = some m.cls := hown
  have hi9 : ∀ w ∈ wsX90, w ∈ wsX9_isOver := fun w h => List.mem_cons_of_mem _ (List.mem_append_right _ h)
  have hk0 := hts (.fieldLink RX9 142 "MonthPushModel" "taped" "I") (by decide +kernel)
  have hk1 := hts (.fieldLink RX9 177 "MonthPushModel" "bad" "I") (by decide +kernel)
  have hk2 := hts (.fieldLink RX9 204 "MonthPushModel" "fault" "I") (by decide +kernel)
  have hk3 := hts (.fieldLink RX9 27 "MonthPushModel" "faultPlace" "I") (by decide +kernel)
  have hl : lv_has ls 1 [(0, .ref (am 0))] := hl
  refine lv_aload_n hx hb dX9_isOver_0 rfl (lv_at hl 0 rfl) ?_
  refine lv_iconst (v := 0) hx hb dX9_isOver_1 (by decide) ?_
  refine z_put0 (D := (dC, dI)) (ci := 9) (v := .int 0) (ty := .int) (C := RX9) (T := TX9) (N := 60) hx hb hts hi9 tyX9 tyX9_ok nmX9 hown hK hP hD hS 0 rfl rfl 6 (by decide) hk0 (fun _ h9 => h9) rfl (by decide +kernel) rfl rfl rfl dX9_isOver_2 (fun H locs hP hS => ?_)
  refine lv_aload_n hx hb dX9_isOver_5 rfl (lv_at hl 0 rfl) ?_
  refine lv_aload_n hx hb dX9_isOver_6 rfl (lv_at hl 0 rfl) ?_
  refine va_get (D := (dC, dI)) (ci := 9) (v := .int 0) (C := RX9) (T := TX9) (N := 60) hx hb hts hi9 hown hK hP 0 rfl rfl 12 (by decide) hk1 (fun _ h9 => h9) rfl dX9_isOver_7 ?_
  refine z_put0 (D := (dC, dI)) (ci := 9) (v := .int 0) (ty := .int) (C := RX9) (T := TX9) (N := 60) hx hb hts hi9 tyX9 tyX9_ok nmX9 hown hK hP hD hS 0 rfl rfl 14 (by decide) hk2 (fun _ h9 => h9) rfl (by decide +kernel) rfl rfl rfl dX9_isOver_10 (fun H locs hP hS => ?_)
  refine lv_aload_n hx hb dX9_isOver_13 rfl (lv_at hl 0 rfl) ?_
  refine lv_aload_n hx hb dX9_isOver_14 rfl (lv_at hl 0 rfl) ?_
  refine va_get (D := (dC, dI)) (ci := 9) (v := .int 0) (C := RX9) (T := TX9) (N := 60) hx hb hts hi9 hown hK hP 0 rfl rfl 12 (by decide) hk1 (fun _ h9 => h9) rfl dX9_isOver_15 ?_
  refine lv_if_ne (tgt := 25) hx hb dX9_isOver_18 (by decide) (fun c => absurd (by decide) c) (fun _ => ?_)
  refine lv_iconst (v := (-1)) hx hb dX9_isOver_21 (by decide) ?_
  refine lv_goto (tgt := 29) hx hb dX9_isOver_22 (by decide) ?_
  refine z_put0 (D := (dC, dI)) (ci := 9) (v := .int (-1)) (ty := .int) (C := RX9) (T := TX9) (N := 60) hx hb hts hi9 tyX9 tyX9_ok nmX9 hown hK hP hD hS 0 rfl rfl 15 (by decide) hk3 (fun _ h9 => h9) rfl (by decide +kernel) rfl rfl rfl dX9_isOver_29 (fun H locs hP hS => ?_)
  exact z_vret () hx hb hr hlocks hK hP hD hS hAe hQ rfl trivial dX9_isOver_32
set_option maxHeartbeats 4000000 in
set_option maxRecDepth 100000 in
theorem c_X9_copyLand_161 (l : Launch) (dC : Nat → ClassId) (dI : Nat → Nat → Nat) (cB cI cJ cZ cP cQ : ClassId) (am : Nat → Nat) (sz : Nat) : Met l yX9_copyLand wsX9_copyLand ({ frames := 0, cells := 0, slots := 0, locals := 0 } : Room) (zPc [.ref (am 0), .int 4, .int 0] (dC, dI) (zT cB cI cJ cZ cP cQ) [(am 0, .inr (9, ((mf0 am).set 13 (.int (-1))))), (am 6, .inl (cI, 5, .inl (fun _ => 0))), (am 7, .inl (cI, 5, .inl (fun _ => 0))), (am 8, .inl (cI, 30, .inl (fun _ => 0))), (am 9, .inl (cI, 30, .inl (fun _ => 0))), (am 10, .inl (cI, 5, .inl (fun _ => 0))), (am 11, .inl (cI, 40, .inl (fun _ => 0))), (am 12, .inl (cI, 40, .inl (fun _ => 0))), (am 13, .inl (cI, 40, .inl (fun _ => 0))), (am 14, .inl (cI, 40, .inl (fun _ => 0))), (am 16, .inl (cI, 60, .inl (fun _ => 0))), (am 17, .inl (cZ, 5, .inl (fun _ => 0))), (am 19, .inl (cI, 5, .inl (fun _ => 0))), (am 20, .inl (cI, 5, .inl (fun _ => 0))), (am 21, .inl (cI, 5, .inl (fun _ => 0)))] sz [] []) (va_Qv (fun _ => True) (zB (dC, dI) (zT cB cI cJ cZ cP cQ) (fun _ : Unit => [(am 0, .inr (9, ((mf0 am).set 13 (.int (-1))))), (am 6, .inl (cI, 5, .inl (fun _ => 0))), (am 7, .inl (cI, 5, .inl (fun _ => 0))), (am 8, .inl (cI, 30, .inl (fun _ => 0))), (am 9, .inl (cI, 30, .inl (fun _ => 0))), (am 10, .inl (cI, 5, .inl (fun _ => 0))), (am 11, .inl (cI, 40, .inl (fun _ => 0))), (am 12, .inl (cI, 40, .inl (fun _ => 0))), (am 13, .inl (cI, 40, .inl (fun _ => 0))), (am 14, .inl (cI, 40, .inl (fun _ => 0))), (am 16, .inl (cI, 60, .inl (fun _ => 0))), (am 17, .inl (cZ, 5, .inl (fun _ => 0))), (am 19, .inl (cI, 5, .inl (fun _ => 0))), (am 20, .inl (cI, 5, .inl (fun _ => 0))), (am 21, .inl (cI, 5, .inl (fun _ => 0)))]) [(am 0, .inr (9, ((mf0 am).set 13 (.int (-1))))), (am 6, .inl (cI, 5, .inl (fun _ => 0))), (am 7, .inl (cI, 5, .inl (fun _ => 0))), (am 8, .inl (cI, 30, .inl (fun _ => 0))), (am 9, .inl (cI, 30, .inl (fun _ => 0))), (am 10, .inl (cI, 5, .inl (fun _ => 0))), (am 11, .inl (cI, 40, .inl (fun _ => 0))), (am 12, .inl (cI, 40, .inl (fun _ => 0))), (am 13, .inl (cI, 40, .inl (fun _ => 0))), (am 14, .inl (cI, 40, .inl (fun _ => 0))), (am 16, .inl (cI, 60, .inl (fun _ => 0))), (am 17, .inl (cZ, 5, .inl (fun _ => 0))), (am 19, .inl (cI, 5, .inl (fun _ => 0))), (am 20, .inl (cI, 5, .inl (fun _ => 0))), (am 21, .inl (cI, 5, .inl (fun _ => 0)))] sz) (va_A [(am 0, .inr (9, ((mf0 am).set 13 (.int (-1))))), (am 6, .inl (cI, 5, .inl (fun _ => 0))), (am 7, .inl (cI, 5, .inl (fun _ => 0))), (am 8, .inl (cI, 30, .inl (fun _ => 0))), (am 9, .inl (cI, 30, .inl (fun _ => 0))), (am 10, .inl (cI, 5, .inl (fun _ => 0))), (am 11, .inl (cI, 40, .inl (fun _ => 0))), (am 12, .inl (cI, 40, .inl (fun _ => 0))), (am 13, .inl (cI, 40, .inl (fun _ => 0))), (am 14, .inl (cI, 40, .inl (fun _ => 0))), (am 16, .inl (cI, 60, .inl (fun _ => 0))), (am 17, .inl (cZ, 5, .inl (fun _ => 0))), (am 19, .inl (cI, 5, .inl (fun _ => 0))), (am 20, .inl (cI, 5, .inl (fun _ => 0))), (am 21, .inl (cI, 5, .inl (fun _ => 0)))] sz)) 0 0 (va_A [(am 0, .inr (9, ((mf0 am).set 13 (.int (-1))))), (am 6, .inl (cI, 5, .inl (fun _ => 0))), (am 7, .inl (cI, 5, .inl (fun _ => 0))), (am 8, .inl (cI, 30, .inl (fun _ => 0))), (am 9, .inl (cI, 30, .inl (fun _ => 0))), (am 10, .inl (cI, 5, .inl (fun _ => 0))), (am 11, .inl (cI, 40, .inl (fun _ => 0))), (am 12, .inl (cI, 40, .inl (fun _ => 0))), (am 13, .inl (cI, 40, .inl (fun _ => 0))), (am 14, .inl (cI, 40, .inl (fun _ => 0))), (am 16, .inl (cI, 60, .inl (fun _ => 0))), (am 17, .inl (cZ, 5, .inl (fun _ => 0))), (am 19, .inl (cI, 5, .inl (fun _ => 0))), (am 20, .inl (cI, 5, .inl (fun _ => 0))), (am 21, .inl (cI, 5, .inl (fun _ => 0)))] sz) := by
  refine z_enter (cc := cX9_copyLand) (maxL := 4) (ret := none) (by decide) rfl (Nat.le_of_ble_eq_true rfl) ?_
  intro p e s m below meth c A ls Q H locs hx hb hr hml hown hts hlocks hin hK hP hD hA hX hS hAe hQ hl
  have hown : s.vm.findClass RX9 = some m.cls := hown
  have hi9 : ∀ w ∈ wsX90, w ∈ wsX9_copyLand := fun w h => List.mem_cons_of_mem _ (List.mem_append_right _ h)
  have hk0 := hts (.fieldLink RX9 31 "MonthPushModel" "lines" "[I") (by decide +kernel)
  have hk1 := hts (.fieldLink RX9 34 "MonthPushModel" "laws" "[I") (by decide +kernel)
  have hk2 := hts (.fieldLink RX9 43 "MonthPushModel" "sorts" "[I") (by decide +kernel)
  have hk3 := hts (.fieldLink RX9 74 "MonthPushModel" "parts" "[I") (by decide +kernel)
  have hk4 := hts (.fieldLink RX9 77 "MonthPushModel" "coded" "[I") (by decide +kernel)
  have hk5 := hts (.fieldLink RX9 71 "MonthPushModel" "noise" "[I") (by decide +kernel)
  have hk6 := hts (.fieldLink RX9 65 "MonthPushModel" "hasWage" "[Z") (by decide +kernel)
  have hk7 := hts (.fieldLink RX9 62 "MonthPushModel" "leakBy" "[I") (by decide +kernel)
  have hk8 := hts (.fieldLink RX9 46 "MonthPushModel" "share" "[I") (by decide +kernel)
  have hk9 := hts (.fieldLink RX9 49 "MonthPushModel" "giftOf" "[I") (by decide +kernel)
  have hk10 := hts (.fieldLink RX9 52 "MonthPushModel" "wishOf" "[I") (by decide +kernel)
  have hk11 := hts (.fieldLink RX9 55 "MonthPushModel" "spread" "[I") (by decide +kernel)
  have hk12 := hts (.fieldLink RX9 37 "MonthPushModel" "enter" "[I") (by decide +kernel)
  have hk13 := hts (.fieldLink RX9 40 "MonthPushModel" "leave" "[I") (by decide +kernel)
  have hl : lv_has ls 4 [(0, .ref (am 0)), (1, .int 4), (2, .int 0)] := hl
  refine lv_aload_n hx hb dX9_copyLand_0 rfl (lv_at hl 0 rfl) ?_
  refine va_get (D := (dC, dI)) (ci := 9) (v := .ref (am 6)) (C := RX9) (T := TX9) (N := 60) hx hb hts hi9 hown hK hP 0 rfl rfl 16 (by decide) hk0 (fun _ h9 => h9) rfl dX9_copyLand_1 ?_
  refine lv_iload_n hx hb dX9_copyLand_4 rfl (lv_at hl 2 rfl) ?_
  refine lv_aload_n hx hb dX9_copyLand_5 rfl (lv_at hl 0 rfl) ?_
  refine va_get (D := (dC, dI)) (ci := 9) (v := .ref (am 6)) (C := RX9) (T := TX9) (N := 60) hx hb hts hi9 hown hK hP 0 rfl rfl 16 (by decide) hk0 (fun _ h9 => h9) rfl dX9_copyLand_6 ?_
  refine lv_iload_n hx hb dX9_copyLand_9 rfl (lv_at hl 1 rfl) ?_
  refine va_iald hx hb hK hP 1 1 rfl rfl (z_in (a := 4) (by decide) (by decide) (by decide)) dX9_copyLand_10 ?_
  refine z_topi (y := 0) rfl ?_
  refine z_iast0 hx hb hK hP hD hS 1 1 rfl rfl (z_in (a := 0) (by decide) (by decide) (by decide)) rfl dX9_copyLand_11 (fun H locs hP hS => ?_)
  refine lv_aload_n hx hb dX9_copyLand_12 rfl (lv_at hl 0 rfl) ?_
  refine va_get (D := (dC, dI)) (ci := 9) (v := .ref (am 7)) (C := RX9) (T := TX9) (N := 60) hx hb hts hi9 hown hK hP 0 rfl rfl 17 (by decide) hk1 (fun _ h9 => h9) rfl dX9_copyLand_13 ?_
  refine lv_iload_n hx hb dX9_copyLand_16 rfl (lv_at hl 2 rfl) ?_
  refine lv_aload_n hx hb dX9_copyLand_17 rfl (lv_at hl 0 rfl) ?_
  refine va_get (D := (dC, dI)) (ci := 9) (v := .ref (am 7)) (C := RX9) (T := TX9) (N := 60) hx hb hts hi9 hown hK hP 0 rfl rfl 17 (by decide) hk1 (fun _ h9 => h9) rfl dX9_copyLand_18 ?_
  refine lv_iload_n hx hb dX9_copyLand_21 rfl (lv_at hl 1 rfl) ?_
  refine va_iald hx hb hK hP 2 1 rfl rfl (z_in (a := 4) (by decide) (by decide) (by decide)) dX9_copyLand_22 ?_
  refine z_topi (y := 0) rfl ?_
  refine z_iast0 hx hb hK hP hD hS 2 1 rfl rfl (z_in (a := 0) (by decide) (by decide) (by decide)) rfl dX9_copyLand_23 (fun H locs hP hS => ?_)
  refine lv_aload_n hx hb dX9_copyLand_24 rfl (lv_at hl 0 rfl) ?_
  refine va_get (D := (dC, dI)) (ci := 9) (v := .ref (am 10)) (C := RX9) (T := TX9) (N := 60) hx hb hts hi9 hown hK hP 0 rfl rfl 20 (by decide) hk2 (fun _ h9 => h9) rfl dX9_copyLand_25 ?_
  refine lv_iload_n hx hb dX9_copyLand_28 rfl (lv_at hl 2 rfl) ?_
  refine lv_aload_n hx hb dX9_copyLand_29 rfl (lv_at hl 0 rfl) ?_
  refine va_get (D := (dC, dI)) (ci := 9) (v := .ref (am 10)) (C := RX9) (T := TX9) (N := 60) hx hb hts hi9 hown hK hP 0 rfl rfl 20 (by decide) hk2 (fun _ h9 => h9) rfl dX9_copyLand_30 ?_
  refine lv_iload_n hx hb dX9_copyLand_33 rfl (lv_at hl 1 rfl) ?_
  refine va_iald hx hb hK hP 5 1 rfl rfl (z_in (a := 4) (by decide) (by decide) (by decide)) dX9_copyLand_34 ?_
  refine z_topi (y := 0) rfl ?_
  refine z_iast0 hx hb hK hP hD hS 5 1 rfl rfl (z_in (a := 0) (by decide) (by decide) (by decide)) rfl dX9_copyLand_35 (fun H locs hP hS => ?_)
  refine lv_aload_n hx hb dX9_copyLand_36 rfl (lv_at hl 0 rfl) ?_
  refine va_get (D := (dC, dI)) (ci := 9) (v := .ref (am 20)) (C := RX9) (T := TX9) (N := 60) hx hb hts hi9 hown hK hP 0 rfl rfl 30 (by decide) hk3 (fun _ h9 => h9) rfl dX9_copyLand_37 ?_
  refine lv_iload_n hx hb dX9_copyLand_40 rfl (lv_at hl 2 rfl) ?_
  refine lv_aload_n hx hb dX9_copyLand_41 rfl (lv_at hl 0 rfl) ?_
  refine va_get (D := (dC, dI)) (ci := 9) (v := .ref (am 20)) (C := RX9) (T := TX9) (N := 60) hx hb hts hi9 hown hK hP 0 rfl rfl 30 (by decide) hk3 (fun _ h9 => h9) rfl dX9_copyLand_42 ?_
  refine lv_iload_n hx hb dX9_copyLand_45 rfl (lv_at hl 1 rfl) ?_
  refine va_iald hx hb hK hP 13 1 rfl rfl (z_in (a := 4) (by decide) (by decide) (by decide)) dX9_copyLand_46 ?_
  refine z_topi (y := 0) rfl ?_
  refine z_iast0 hx hb hK hP hD hS 13 1 rfl rfl (z_in (a := 0) (by decide) (by decide) (by decide)) rfl dX9_copyLand_47 (fun H locs hP hS => ?_)
  refine lv_aload_n hx hb dX9_copyLand_48 rfl (lv_at hl 0 rfl) ?_
  refine va_get (D := (dC, dI)) (ci := 9) (v := .ref (am 21)) (C := RX9) (T := TX9) (N := 60) hx hb hts hi9 hown hK hP 0 rfl rfl 31 (by decide) hk4 (fun _ h9 => h9) rfl dX9_copyLand_49 ?_
  refine lv_iload_n hx hb dX9_copyLand_52 rfl (lv_at hl 2 rfl) ?_
  refine lv_aload_n hx hb dX9_copyLand_53 rfl (lv_at hl 0 rfl) ?_
  refine va_get (D := (dC, dI)) (ci := 9) (v := .ref (am 21)) (C := RX9) (T := TX9) (N := 60) hx hb hts hi9 hown hK hP 0 rfl rfl 31 (by decide) hk4 (fun _ h9 => h9) rfl dX9_copyLand_54 ?_
  refine lv_iload_n hx hb dX9_copyLand_57 rfl (lv_at hl 1 rfl) ?_
  refine va_iald hx hb hK hP 14 1 rfl rfl (z_in (a := 4) (by decide) (by decide) (by decide)) dX9_copyLand_58 ?_
  refine z_topi (y := 0) rfl ?_
  refine z_iast0 hx hb hK hP hD hS 14 1 rfl rfl (z_in (a := 0) (by decide) (by decide) (by decide)) rfl dX9_copyLand_59 (fun H locs hP hS => ?_)
  refine lv_aload_n hx hb dX9_copyLand_60 rfl (lv_at hl 0 rfl) ?_
  refine va_get (D := (dC, dI)) (ci := 9) (v := .ref (am 19)) (C := RX9) (T := TX9) (N := 60) hx hb hts hi9 hown hK hP 0 rfl rfl 29 (by decide) hk5 (fun _ h9 => h9) rfl dX9_copyLand_61 ?_
  refine lv_iload_n hx hb dX9_copyLand_64 rfl (lv_at hl 2 rfl) ?_
  refine lv_aload_n hx hb dX9_copyLand_65 rfl (lv_at hl 0 rfl) ?_
  refine va_get (D := (dC, dI)) (ci := 9) (v := .ref (am 19)) (C := RX9) (T := TX9) (N := 60) hx hb hts hi9 hown hK hP 0 rfl rfl 29 (by decide) hk5 (fun _ h9 => h9) rfl dX9_copyLand_66 ?_
  refine lv_iload_n hx hb dX9_copyLand_69 rfl (lv_at hl 1 rfl) ?_
  refine va_iald hx hb hK hP 12 1 rfl rfl (z_in (a := 4) (by decide) (by decide) (by decide)) dX9_copyLand_70 ?_
  refine z_topi (y := 0) rfl ?_
  refine z_iast0 hx hb hK hP hD hS 12 1 rfl rfl (z_in (a := 0) (by decide) (by decide) (by decide)) rfl dX9_copyLand_71 (fun H locs hP hS => ?_)
  refine lv_aload_n hx hb dX9_copyLand_72 rfl (lv_at hl 0 rfl) ?_
  refine va_get (D := (dC, dI)) (ci := 9) (v := .ref (am 17)) (C := RX9) (T := TX9) (N := 60) hx hb hts hi9 hown hK hP 0 rfl rfl 27 (by decide) hk6 (fun _ h9 => h9) rfl dX9_copyLand_73 ?_
  refine lv_iload_n hx hb dX9_copyLand_76 rfl (lv_at hl 2 rfl) ?_
  refine lv_aload_n hx hb dX9_copyLand_77 rfl (lv_at hl 0 rfl) ?_
  refine va_get (D := (dC, dI)) (ci := 9) (v := .ref (am 17)) (C := RX9) (T := TX9) (N := 60) hx hb hts hi9 hown hK hP 0 rfl rfl 27 (by decide) hk6 (fun _ h9 => h9) rfl dX9_copyLand_78 ?_
  refine lv_iload_n hx hb dX9_copyLand_81 rfl (lv_at hl 1 rfl) ?_
  refine va_zald hx hb hK hP 11 3 rfl rfl (z_in (a := 4) (by decide) (by decide) (by decide)) dX9_copyLand_82 ?_
  refine z_topi (y := 0) rfl ?_
  refine z_zast0 hx hb hK hP hD hS 11 3 rfl rfl (z_in (a := 0) (by decide) (by decide) (by decide)) (by decide) dX9_copyLand_83 (fun H locs hP hS => ?_)
  refine lv_iconst (v := 0) hx hb dX9_copyLand_84 (by decide) ?_
  refine lv_istore_n (lv' := [(3, .int 0), (0, .ref (am 0)), (1, .int 4), (2, .int 0)]) hx hb dX9_copyLand_85 rfl hl (by decide) rfl (fun ls hl => ?_)
  have hlp1 : ∀ (n i : Nat), i + n = 6 → 0 ≤ i → ∀ (H : Heap) (locs : List Loc), va_P (dC, dI) vwCl [(am 0, .inr (9, ((mf0 am).set 13 (.int (-1))))), (am 6, .inl (cI, 5, .inl (fun _ => 0))), (am 7, .inl (cI, 5, .inl (fun _ => 0))), (am 8, .inl (cI, 30, .inl (fun _ => 0))), (am 9, .inl (cI, 30, .inl (fun _ => 0))), (am 10, .inl (cI, 5, .inl (fun _ => 0))), (am 11, .inl (cI, 40, .inl (fun _ => 0))), (am 12, .inl (cI, 40, .inl (fun _ => 0))), (am 13, .inl (cI, 40, .inl (fun _ => 0))), (am 14, .inl (cI, 40, .inl (fun _ => 0))), (am 16, .inl (cI, 60, .inl (fun _ => 0))), (am 17, .inl (cZ, 5, .inl (fun _ => 0))), (am 19, .inl (cI, 5, .inl (fun _ => 0))), (am 20, .inl (cI, 5, .inl (fun _ => 0))), (am 21, .inl (cI, 5, .inl (fun _ => 0)))] H → va_S A s.heap H locs → ∀ (ls : Array Slot), lv_has ls 4 [(3, .int (nI i)), (0, .ref (am 0)), (1, .int 4), (2, .int 0)] → W p l e ({ frames := 0, cells := 0, slots := 0, locals := 0 } : Room) s m ([.ref (am 0), .int 4, .int 0] : List Value).toArray below meth c H locs 0 0 Q (F0 m 86 ls []) := by
    intro n
    induction n with
    | zero =>
      intro i hi hi0 H locs hP hS ls hl
      obtain rfl : i = 6 := by omega
      have hl : lv_has ls 4 [(3, .int 6), (0, .ref (am 0)), (1, .int 4), (2, .int 0)] := hl
      refine lv_iload_n hx hb dX9_copyLand_86 rfl (lv_at hl 0 rfl) ?_
      refine lv_bipush (v := 6) hx hb dX9_copyLand_87 (by decide) ?_
      refine lv_icmp_ge (tgt := 142) hx hb dX9_copyLand_89 (by decide) (fun _ => ?_) (fun c => absurd (by decide) c)
      refine lv_iconst (v := 0) hx hb dX9_copyLand_142 (by decide) ?_
      refine lv_istore_n (lv' := [(3, .int 0), (0, .ref (am 0)), (1, .int 4), (2, .int 0)]) hx hb dX9_copyLand_143 rfl hl (by decide) rfl (fun ls hl => ?_)
      have hlp2 : ∀ (n i : Nat), i + n = 8 → 0 ≤ i → ∀ (H : Heap) (locs : List Loc), va_P (dC, dI) vwCl [(am 0, .inr (9, ((mf0 am).set 13 (.int (-1))))), (am 6, .inl (cI, 5, .inl (fun _ => 0))), (am 7, .inl (cI, 5, .inl (fun _ => 0))), (am 8, .inl (cI, 30, .inl (fun _ => 0))), (am 9, .inl (cI, 30, .inl (fun _ => 0))), (am 10, .inl (cI, 5, .inl (fun _ => 0))), (am 11, .inl (cI, 40, .inl (fun _ => 0))), (am 12, .inl (cI, 40, .inl (fun _ => 0))), (am 13, .inl (cI, 40, .inl (fun _ => 0))), (am 14, .inl (cI, 40, .inl (fun _ => 0))), (am 16, .inl (cI, 60, .inl (fun _ => 0))), (am 17, .inl (cZ, 5, .inl (fun _ => 0))), (am 19, .inl (cI, 5, .inl (fun _ => 0))), (am 20, .inl (cI, 5, .inl (fun _ => 0))), (am 21, .inl (cI, 5, .inl (fun _ => 0)))] H → va_S A s.heap H locs → ∀ (ls : Array Slot), lv_has ls 4 [(3, .int (nI i)), (0, .ref (am 0)), (1, .int 4), (2, .int 0)] → W p l e ({ frames := 0, cells := 0, slots := 0, locals := 0 } : Room) s m ([.ref (am 0), .int 4, .int 0] : List Value).toArray below meth c H locs 0 0 Q (F0 m 144 ls []) := by
        intro n
        induction n with
        | zero =>
          intro i hi hi0 H locs hP hS ls hl
          obtain rfl : i = 8 := by omega
          have hl : lv_has ls 4 [(3, .int 8), (0, .ref (am 0)), (1, .int 4), (2, .int 0)] := hl
          refine lv_iload_n hx hb dX9_copyLand_144 rfl (lv_at hl 0 rfl) ?_
          refine lv_bipush (v := 8) hx hb dX9_copyLand_145 (by decide) ?_
          refine lv_icmp_ge (tgt := 244) hx hb dX9_copyLand_147 (by decide) (fun _ => ?_) (fun c => absurd (by decide) c)
          refine lv_iconst (v := 0) hx hb dX9_copyLand_244 (by decide) ?_
          refine lv_istore_n (lv' := [(3, .int 0), (0, .ref (am 0)), (1, .int 4), (2, .int 0)]) hx hb dX9_copyLand_245 rfl hl (by decide) rfl (fun ls hl => ?_)
          have hlp3 : ∀ (n i : Nat), i + n = 12 → 0 ≤ i → ∀ (H : Heap) (locs : List Loc), va_P (dC, dI) vwCl [(am 0, .inr (9, ((mf0 am).set 13 (.int (-1))))), (am 6, .inl (cI, 5, .inl (fun _ => 0))), (am 7, .inl (cI, 5, .inl (fun _ => 0))), (am 8, .inl (cI, 30, .inl (fun _ => 0))), (am 9, .inl (cI, 30, .inl (fun _ => 0))), (am 10, .inl (cI, 5, .inl (fun _ => 0))), (am 11, .inl (cI, 40, .inl (fun _ => 0))), (am 12, .inl (cI, 40, .inl (fun _ => 0))), (am 13, .inl (cI, 40, .inl (fun _ => 0))), (am 14, .inl (cI, 40, .inl (fun _ => 0))), (am 16, .inl (cI, 60, .inl (fun _ => 0))), (am 17, .inl (cZ, 5, .inl (fun _ => 0))), (am 19, .inl (cI, 5, .inl (fun _ => 0))), (am 20, .inl (cI, 5, .inl (fun _ => 0))), (am 21, .inl (cI, 5, .inl (fun _ => 0)))] H → va_S A s.heap H locs → ∀ (ls : Array Slot), lv_has ls 4 [(3, .int (nI i)), (0, .ref (am 0)), (1, .int 4), (2, .int 0)] → W p l e ({ frames := 0, cells := 0, slots := 0, locals := 0 } : Room) s m ([.ref (am 0), .int 4, .int 0] : List Value).toArray below meth c H locs 0 0 Q (F0 m 246 ls []) := by
            intro n
            induction n with
            | zero =>
              intro i hi hi0 H locs hP hS ls hl
              obtain rfl : i = 12 := by omega
              have hl : lv_has ls 4 [(3, .int 12), (0, .ref (am 0)), (1, .int 4), (2, .int 0)] := hl
              refine lv_iload_n hx hb dX9_copyLand_246 rfl (lv_at hl 0 rfl) ?_
              refine lv_bipush (v := 12) hx hb dX9_copyLand_247 (by decide) ?_
              refine lv_icmp_ge (tgt := 280) hx hb dX9_copyLand_249 (by decide) (fun _ => ?_) (fun c => absurd (by decide) c)
              refine lv_iconst (v := 0) hx hb dX9_copyLand_280 (by decide) ?_
              refine lv_istore_n (lv' := [(3, .int 0), (0, .ref (am 0)), (1, .int 4), (2, .int 0)]) hx hb dX9_copyLand_281 rfl hl (by decide) rfl (fun ls hl => ?_)
              refine lv_iload_n hx hb dX9_copyLand_282 rfl (lv_at hl 0 rfl) ?_
              refine lv_aload_n hx hb dX9_copyLand_283 rfl (lv_at hl 1 rfl) ?_
              refine va_get (D := (dC, dI)) (ci := 9) (v := .ref (am 21)) (C := RX9) (T := TX9) (N := 60) hx hb hts hi9 hown hK hP 0 rfl rfl 31 (by decide) hk4 (fun _ h9 => h9) rfl dX9_copyLand_284 ?_
              refine lv_iload_n hx hb dX9_copyLand_287 rfl (lv_at hl 2 rfl) ?_
              refine va_iald hx hb hK hP 14 1 rfl rfl (z_in (a := 4) (by decide) (by decide) (by decide)) dX9_copyLand_288 ?_
              refine z_topi (y := 0) rfl ?_
              refine lv_icmp_ge (tgt := 322) hx hb dX9_copyLand_289 (by decide) (fun _ => ?_) (fun c => absurd (by decide) c)
              exact z_vret () hx hb hr hlocks hK hP hD hS hAe hQ rfl trivial dX9_copyLand_322
            | succ n ih =>
              intro i hi hi0 H locs hP hS ls hl
              have hlt : i < 12 := by omega
              refine lv_iload_n hx hb dX9_copyLand_246 rfl (lv_at hl 0 rfl) ?_
              refine lv_bipush (v := 12) hx hb dX9_copyLand_247 (by decide) ?_
              refine lv_icmp_ge (tgt := 280) hx hb dX9_copyLand_249 (by decide) (fun c => absurd (show 12 ≤ (i : Int) from z_le (by decide) (nI_toInt (by omega)) c) (by omega)) (fun _ => ?_)
              refine lv_aload_n hx hb dX9_copyLand_252 rfl (lv_at hl 1 rfl) ?_
              refine va_get (D := (dC, dI)) (ci := 9) (v := .ref (am 16)) (C := RX9) (T := TX9) (N := 60) hx hb hts hi9 hown hK hP 0 rfl rfl 26 (by decide) hk7 (fun _ h9 => h9) rfl dX9_copyLand_253 ?_
              refine lv_bipush (v := 12) hx hb dX9_copyLand_256 (by decide) ?_
              refine lv_iload_n hx hb dX9_copyLand_258 rfl (lv_at hl 3 rfl) ?_
              refine lv_imul hx hb dX9_copyLand_259 ?_
              refine z_topi (y := 0) (by decide +kernel) ?_
              refine lv_iload_n hx hb dX9_copyLand_260 rfl (lv_at hl 0 rfl) ?_
              refine lv_iadd hx hb dX9_copyLand_261 ?_
              refine z_topi (y := nI (0 + i)) (nI_add 0 i) ?_
              refine lv_aload_n hx hb dX9_copyLand_262 rfl (lv_at hl 1 rfl) ?_
              refine va_get (D := (dC, dI)) (ci := 9) (v := .ref (am 16)) (C := RX9) (T := TX9) (N := 60) hx hb hts hi9 hown hK hP 0 rfl rfl 26 (by decide) hk7 (fun _ h9 => h9) rfl dX9_copyLand_263 ?_
              refine lv_bipush (v := 12) hx hb dX9_copyLand_266 (by decide) ?_
              refine lv_iload_n hx hb dX9_copyLand_268 rfl (lv_at hl 2 rfl) ?_
              refine lv_imul hx hb dX9_copyLand_269 ?_
              refine z_topi (y := 48) (by decide +kernel) ?_
              refine lv_iload_n hx hb dX9_copyLand_270 rfl (lv_at hl 0 rfl) ?_
              refine lv_iadd hx hb dX9_copyLand_271 ?_
              refine z_topi (y := nI (48 + i)) (nI_add 48 i) ?_
              refine va_iald hx hb hK hP 10 1 rfl rfl (z_in (nI_toInt (by omega)) (by omega) (by omega)) dX9_copyLand_272 ?_
              refine z_topi (y := 0) rfl ?_
              refine z_iast0 hx hb hK hP hD hS 10 1 rfl rfl (z_in (nI_toInt (by omega)) (by omega) (by omega)) rfl dX9_copyLand_273 (fun H locs hP hS => ?_)
              refine lv_iinc (v := nI (i + 1)) (lv' := [(3, .int (nI (i + 1))), (0, .ref (am 0)), (1, .int 4), (2, .int 0)]) hx hb dX9_copyLand_274 hl (k := 0) rfl (nI_1 i) (by decide) rfl (fun ls hl => ?_)
              refine lv_goto (tgt := 246) hx hb dX9_copyLand_277 (by decide) ?_
              exact ih (i + 1) (by omega) (by omega) _ _ hP hS ls (lv_sub hl [0, 1, 2, 3] rfl)
          exact hlp3 12 0 rfl (by omega) _ _ hP hS ls (lv_sub hl [0, 1, 2, 3] rfl)
        | succ n ih =>
          intro i hi hi0 H locs hP hS ls hl
          have hlt : i < 8 := by omega
          refine lv_iload_n hx hb dX9_copyLand_144 rfl (lv_at hl 0 rfl) ?_
          refine lv_bipush (v := 8) hx hb dX9_copyLand_145 (by decide) ?_
          refine lv_icmp_ge (tgt := 244) hx hb dX9_copyLand_147 (by decide) (fun c => absurd (show 8 ≤ (i : Int) from z_le (by decide) (nI_toInt (by omega)) c) (by omega)) (fun _ => ?_)
          refine lv_aload_n hx hb dX9_copyLand_150 rfl (lv_at hl 1 rfl) ?_
          refine va_get (D := (dC, dI)) (ci := 9) (v := .ref (am 11)) (C := RX9) (T := TX9) (N := 60) hx hb hts hi9 hown hK hP 0 rfl rfl 21 (by decide) hk8 (fun _ h9 => h9) rfl dX9_copyLand_151 ?_
          refine lv_bipush (v := 8) hx hb dX9_copyLand_154 (by decide) ?_
          refine lv_iload_n hx hb dX9_copyLand_156 rfl (lv_at hl 3 rfl) ?_
          refine lv_imul hx hb dX9_copyLand_157 ?_
          refine z_topi (y := 0) (by decide +kernel) ?_
          refine lv_iload_n hx hb dX9_copyLand_158 rfl (lv_at hl 0 rfl) ?_
          refine lv_iadd hx hb dX9_copyLand_159 ?_
          refine z_topi (y := nI (0 + i)) (nI_add 0 i) ?_
          refine lv_aload_n hx hb dX9_copyLand_160 rfl (lv_at hl 1 rfl) ?_
          refine va_get (D := (dC, dI)) (ci := 9) (v := .ref (am 11)) (C := RX9) (T := TX9) (N := 60) hx hb hts hi9 hown hK hP 0 rfl rfl 21 (by decide) hk8 (fun _ h9 => h9) rfl dX9_copyLand_161 ?_
          refine lv_bipush (v := 8) hx hb dX9_copyLand_164 (by decide) ?_
          refine lv_iload_n hx hb dX9_copyLand_166 rfl (lv_at hl 2 rfl) ?_
          refine lv_imul hx hb dX9_copyLand_167 ?_
          refine z_topi (y := 32) (by decide +kernel) ?_
          refine lv_iload_n hx hb dX9_copyLand_168 rfl (lv_at hl 0 rfl) ?_
          refine lv_iadd hx hb dX9_copyLand_169 ?_
          refine z_topi (y := nI (32 + i)) (nI_add 32 i) ?_
          refine va_iald hx hb hK hP 6 1 rfl rfl (z_in (nI_toInt (by omega)) (by omega) (by omega)) dX9_copyLand_170 ?_
          refine z_topi (y := 0) rfl ?_
          refine z_iast0 hx hb hK hP hD hS 6 1 rfl rfl (z_in (nI_toInt (by omega)) (by omega) (by omega)) rfl dX9_copyLand_171 (fun H locs hP hS => ?_)
          refine lv_aload_n hx hb dX9_copyLand_172 rfl (lv_at hl 1 rfl) ?_
          refine va_get (D := (dC, dI)) (ci := 9) (v := .ref (am 12)) (C := RX9) (T := TX9) (N := 60) hx hb hts hi9 hown hK hP 0 rfl rfl 22 (by decide) hk9 (fun _ h9 => h9) rfl dX9_copyLand_173 ?_
          refine lv_bipush (v := 8) hx hb dX9_copyLand_176 (by decide) ?_
          refine lv_iload_n hx hb dX9_copyLand_178 rfl (lv_at hl 3 rfl) ?_
          refine lv_imul hx hb dX9_copyLand_179 ?_
          refine z_topi (y := 0) (by decide +kernel) ?_
          refine lv_iload_n hx hb dX9_copyLand_180 rfl (lv_at hl 0 rfl) ?_
          refine lv_iadd hx hb dX9_copyLand_181 ?_
          refine z_topi (y := nI (0 + i)) (nI_add 0 i) ?_
          refine lv_aload_n hx hb dX9_copyLand_182 rfl (lv_at hl 1 rfl) ?_
          refine va_get (D := (dC, dI)) (ci := 9) (v := .ref (am 12)) (C := RX9) (T := TX9) (N := 60) hx hb hts hi9 hown hK hP 0 rfl rfl 22 (by decide) hk9 (fun _ h9 => h9) rfl dX9_copyLand_183 ?_
          refine lv_bipush (v := 8) hx hb dX9_copyLand_186 (by decide) ?_
          refine lv_iload_n hx hb dX9_copyLand_188 rfl (lv_at hl 2 rfl) ?_
          refine lv_imul hx hb dX9_copyLand_189 ?_
          refine z_topi (y := 32) (by decide +kernel) ?_
          refine lv_iload_n hx hb dX9_copyLand_190 rfl (lv_at hl 0 rfl) ?_
          refine lv_iadd hx hb dX9_copyLand_191 ?_
          refine z_topi (y := nI (32 + i)) (nI_add 32 i) ?_
          refine va_iald hx hb hK hP 7 1 rfl rfl (z_in (nI_toInt (by omega)) (by omega) (by omega)) dX9_copyLand_192 ?_
          refine z_topi (y := 0) rfl ?_
          refine z_iast0 hx hb hK hP hD hS 7 1 rfl rfl (z_in (nI_toInt (by omega)) (by omega) (by omega)) rfl dX9_copyLand_193 (fun H locs hP hS => ?_)
          refine lv_aload_n hx hb dX9_copyLand_194 rfl (lv_at hl 1 rfl) ?_
          refine va_get (D := (dC, dI)) (ci := 9) (v := .ref (am 13)) (C := RX9) (T := TX9) (N := 60) hx hb hts hi9 hown hK hP 0 rfl rfl 23 (by decide) hk10 (fun _ h9 => h9) rfl dX9_copyLand_195 ?_
          refine lv_bipush (v := 8) hx hb dX9_copyLand_198 (by decide) ?_
          refine lv_iload_n hx hb dX9_copyLand_200 rfl (lv_at hl 3 rfl) ?_
          refine lv_imul hx hb dX9_copyLand_201 ?_
          refine z_topi (y := 0) (by decide +kernel) ?_
          refine lv_iload_n hx hb dX9_copyLand_202 rfl (lv_at hl 0 rfl) ?_
          refine lv_iadd hx hb dX9_copyLand_203 ?_
          refine z_topi (y := nI (0 + i)) (nI_add 0 i) ?_
          refine lv_aload_n hx hb dX9_copyLand_204 rfl (lv_at hl 1 rfl) ?_
          refine va_get (D := (dC, dI)) (ci := 9) (v := .ref (am 13)) (C := RX9) (T := TX9) (N := 60) hx hb hts hi9 hown hK hP 0 rfl rfl 23 (by decide) hk10 (fun _ h9 => h9) rfl dX9_copyLand_205 ?_
          refine lv_bipush (v := 8) hx hb dX9_copyLand_208 (by decide) ?_
          refine lv_iload_n hx hb dX9_copyLand_210 rfl (lv_at hl 2 rfl) ?_
          refine lv_imul hx hb dX9_copyLand_211 ?_
          refine z_topi (y := 32) (by decide +kernel) ?_
          refine lv_iload_n hx hb dX9_copyLand_212 rfl (lv_at hl 0 rfl) ?_
          refine lv_iadd hx hb dX9_copyLand_213 ?_
          refine z_topi (y := nI (32 + i)) (nI_add 32 i) ?_
          refine va_iald hx hb hK hP 8 1 rfl rfl (z_in (nI_toInt (by omega)) (by omega) (by omega)) dX9_copyLand_214 ?_
          refine z_topi (y := 0) rfl ?_
          refine z_iast0 hx hb hK hP hD hS 8 1 rfl rfl (z_in (nI_toInt (by omega)) (by omega) (by omega)) rfl dX9_copyLand_215 (fun H locs hP hS => ?_)
          refine lv_aload_n hx hb dX9_copyLand_216 rfl (lv_at hl 1 rfl) ?_
          refine va_get (D := (dC, dI)) (ci := 9) (v := .ref (am 14)) (C := RX9) (T := TX9) (N := 60) hx hb hts hi9 hown hK hP 0 rfl rfl 24 (by decide) hk11 (fun _ h9 => h9) rfl dX9_copyLand_217 ?_
          refine lv_bipush (v := 8) hx hb dX9_copyLand_220 (by decide) ?_
          refine lv_iload_n hx hb dX9_copyLand_222 rfl (lv_at hl 3 rfl) ?_
          refine lv_imul hx hb dX9_copyLand_223 ?_
          refine z_topi (y := 0) (by decide +kernel) ?_
          refine lv_iload_n hx hb dX9_copyLand_224 rfl (lv_at hl 0 rfl) ?_
          refine lv_iadd hx hb dX9_copyLand_225 ?_
          refine z_topi (y := nI (0 + i)) (nI_add 0 i) ?_
          refine lv_aload_n hx hb dX9_copyLand_226 rfl (lv_at hl 1 rfl) ?_
          refine va_get (D := (dC, dI)) (ci := 9) (v := .ref (am 14)) (C := RX9) (T := TX9) (N := 60) hx hb hts hi9 hown hK hP 0 rfl rfl 24 (by decide) hk11 (fun _ h9 => h9) rfl dX9_copyLand_227 ?_
          refine lv_bipush (v := 8) hx hb dX9_copyLand_230 (by decide) ?_
          refine lv_iload_n hx hb dX9_copyLand_232 rfl (lv_at hl 2 rfl) ?_
          refine lv_imul hx hb dX9_copyLand_233 ?_
          refine z_topi (y := 32) (by decide +kernel) ?_
          refine lv_iload_n hx hb dX9_copyLand_234 rfl (lv_at hl 0 rfl) ?_
          refine lv_iadd hx hb dX9_copyLand_235 ?_
          refine z_topi (y := nI (32 + i)) (nI_add 32 i) ?_
          refine va_iald hx hb hK hP 9 1 rfl rfl (z_in (nI_toInt (by omega)) (by omega) (by omega)) dX9_copyLand_236 ?_
          refine z_topi (y := 0) rfl ?_
          refine z_iast0 hx hb hK hP hD hS 9 1 rfl rfl (z_in (nI_toInt (by omega)) (by omega) (by omega)) rfl dX9_copyLand_237 (fun H locs hP hS => ?_)
          refine lv_iinc (v := nI (i + 1)) (lv' := [(3, .int (nI (i + 1))), (0, .ref (am 0)), (1, .int 4), (2, .int 0)]) hx hb dX9_copyLand_238 hl (k := 0) rfl (nI_1 i) (by decide) rfl (fun ls hl => ?_)
          refine lv_goto (tgt := 144) hx hb dX9_copyLand_241 (by decide) ?_
          exact ih (i + 1) (by omega) (by omega) _ _ hP hS ls (lv_sub hl [0, 1, 2, 3] rfl)
      exact hlp2 8 0 rfl (by omega) _ _ hP hS ls (lv_sub hl [0, 1, 2, 3] rfl)
    | succ n ih =>
      intro i hi hi0 H locs hP hS ls hl
      have hlt : i < 6 := by omega
      refine lv_iload_n hx hb dX9_copyLand_86 rfl (lv_at hl 0 rfl) ?_
      refine lv_bipush (v := 6) hx hb dX9_copyLand_87 (by decide) ?_
      refine lv_icmp_ge (tgt := 142) hx hb dX9_copyLand_89 (by decide) (fun c => absurd (show 6 ≤ (i : Int) from z_le (by decide) (nI_toInt (by omega)) c) (by omega)) (fun _ => ?_)
      refine lv_aload_n hx hb dX9_copyLand_92 rfl (lv_at hl 1 rfl) ?_
      refine va_get (D := (dC, dI)) (ci := 9) (v := .ref (am 8)) (C := RX9) (T := TX9) (N := 60) hx hb hts hi9 hown hK hP 0 rfl rfl 18 (by decide) hk12 (fun _ h9 => h9) rfl dX9_copyLand_93 ?_
      refine lv_bipush (v := 6) hx hb dX9_copyLand_96 (by decide) ?_
      refine lv_iload_n hx hb dX9_copyLand_98 rfl (lv_at hl 3 rfl) ?_
      refine lv_imul hx hb dX9_copyLand_99 ?_
      refine z_topi (y := 0) (by decide +kernel) ?_
      refine lv_iload_n hx hb dX9_copyLand_100 rfl (lv_at hl 0 rfl) ?_
      refine lv_iadd hx hb dX9_copyLand_101 ?_
      refine z_topi (y := nI (0 + i)) (nI_add 0 i) ?_
      refine lv_aload_n hx hb dX9_copyLand_102 rfl (lv_at hl 1 rfl) ?_
      refine va_get (D := (dC, dI)) (ci := 9) (v := .ref (am 8)) (C := RX9) (T := TX9) (N := 60) hx hb hts hi9 hown hK hP 0 rfl rfl 18 (by decide) hk12 (fun _ h9 => h9) rfl dX9_copyLand_103 ?_
      refine lv_bipush (v := 6) hx hb dX9_copyLand_106 (by decide) ?_
      refine lv_iload_n hx hb dX9_copyLand_108 rfl (lv_at hl 2 rfl) ?_
      refine lv_imul hx hb dX9_copyLand_109 ?_
      refine z_topi (y := 24) (by decide +kernel) ?_
      refine lv_iload_n hx hb dX9_copyLand_110 rfl (lv_at hl 0 rfl) ?_
      refine lv_iadd hx hb dX9_copyLand_111 ?_
      refine z_topi (y := nI (24 + i)) (nI_add 24 i) ?_
      refine va_iald hx hb hK hP 3 1 rfl rfl (z_in (nI_toInt (by omega)) (by omega) (by omega)) dX9_copyLand_112 ?_
      refine z_topi (y := 0) rfl ?_
      refine z_iast0 hx hb hK hP hD hS 3 1 rfl rfl (z_in (nI_toInt (by omega)) (by omega) (by omega)) rfl dX9_copyLand_113 (fun H locs hP hS => ?_)
      refine lv_aload_n hx hb dX9_copyLand_114 rfl (lv_at hl 1 rfl) ?_
      refine va_get (D := (dC, dI)) (ci := 9) (v := .ref (am 9)) (C := RX9) (T := TX9) (N := 60) hx hb hts hi9 hown hK hP 0 rfl rfl 19 (by decide) hk13 (fun _ h9 => h9) rfl dX9_copyLand_115 ?_
      refine lv_bipush (v := 6) hx hb dX9_copyLand_118 (by decide) ?_
      refine lv_iload_n hx hb dX9_copyLand_120 rfl (lv_at hl 3 rfl) ?_
      refine lv_imul hx hb dX9_copyLand_121 ?_
      refine z_topi (y := 0) (by decide +kernel) ?_
      refine lv_iload_n hx hb dX9_copyLand_122 rfl (lv_at hl 0 rfl) ?_
      refine lv_iadd hx hb dX9_copyLand_123 ?_
      refine z_topi (y := nI (0 + i)) (nI_add 0 i) ?_
      refine lv_aload_n hx hb dX9_copyLand_124 rfl (lv_at hl 1 rfl) ?_
      refine va_get (D := (dC, dI)) (ci := 9) (v := .ref (am 9)) (C := RX9) (T := TX9) (N := 60) hx hb hts hi9 hown hK hP 0 rfl rfl 19 (by decide) hk13 (fun _ h9 => h9) rfl dX9_copyLand_125 ?_
      refine lv_bipush (v := 6) hx hb dX9_copyLand_128 (by decide) ?_
      refine lv_iload_n hx hb dX9_copyLand_130 rfl (lv_at hl 2 rfl) ?_
      refine lv_imul hx hb dX9_copyLand_131 ?_
      refine z_topi (y := 24) (by decide +kernel) ?_
      refine lv_iload_n hx hb dX9_copyLand_132 rfl (lv_at hl 0 rfl) ?_
      refine lv_iadd hx hb dX9_copyLand_133 ?_
      refine z_topi (y := nI (24 + i)) (nI_add 24 i) ?_
      refine va_iald hx hb hK hP 4 1 rfl rfl (z_in (nI_toInt (by omega)) (by omega) (by omega)) dX9_copyLand_134 ?_
      refine z_topi (y := 0) rfl ?_
      refine z_iast0 hx hb hK hP hD hS 4 1 rfl rfl (z_in (nI_toInt (by omega)) (by omega) (by omega)) rfl dX9_copyLand_135 (fun H locs hP hS => ?_)
      refine lv_iinc (v := nI (i + 1)) (lv' := [(3, .int (nI (i + 1))), (0, .ref (am 0)), (1, .int 4), (2, .int 0)]) hx hb dX9_copyLand_136 hl (k := 0) rfl (nI_1 i) (by decide) rfl (fun ls hl => ?_)
      refine lv_goto (tgt := 86) hx hb dX9_copyLand_139 (by decide) ?_
      exact ih (i + 1) (by omega) (by omega) _ _ hP hS ls (lv_sub hl [0, 1, 2, 3] rfl)
  exact hlp1 6 0 rfl (by omega) _ _ hP hS ls (lv_sub hl [0, 1, 2, 3] rfl)
set_option maxHeartbeats 4000000 in
set_option maxRecDepth 100000 in
theorem c_X9_land_161 (l : Launch) (dC : Nat → ClassId) (dI : Nat → Nat → Nat) (cB cI cJ cZ cP cQ : ClassId) (am : Nat → Nat) (sz : Nat) : Met l yX9_land wsX9_land ({ frames := 3, cells := 0, slots := 0, locals := 64 } : Room) (zPc [.ref (am 0)] (dC, dI) (zT cB cI cJ cZ cP cQ) [(am 0, .inr (9, mf0 am)), (am 6, .inl (cI, 5, .inl (fun _ => 0))), (am 7, .inl (cI, 5, .inl (fun _ => 0))), (am 8, .inl (cI, 30, .inl (fun _ => 0))), (am 9, .inl (cI, 30, .inl (fun _ => 0))), (am 10, .inl (cI, 5, .inl (fun _ => 0))), (am 11, .inl (cI, 40, .inl (fun _ => 0))), (am 12, .inl (cI, 40, .inl (fun _ => 0))), (am 13, .inl (cI, 40, .inl (fun _ => 0))), (am 14, .inl (cI, 40, .inl (fun _ => 0))), (am 15, .inl (cZ, 60, .inl (fun _ => 0))), (am 16, .inl (cI, 60, .inl (fun _ => 0))), (am 17, .inl (cZ, 5, .inl (fun _ => 0))), (am 18, .inl (cZ, 5, .inl (fun _ => 0))), (am 19, .inl (cI, 5, .inl (fun _ => 0))), (am 20, .inl (cI, 5, .inl (fun _ => 0))), (am 21, .inl (cI, 5, .inl (fun _ => 0)))] sz [] []) (va_Qi (fun r _ => (fun r => r = 0) r) (zB (dC, dI) (zT cB cI cJ cZ cP cQ) (fun _ : Unit => []) [(am 0, .inr (9, mf0 am)), (am 6, .inl (cI, 5, .inl (fun _ => 0))), (am 7, .inl (cI, 5, .inl (fun _ => 0))), (am 8, .inl (cI, 30, .inl (fun _ => 0))), (am 9, .inl (cI, 30, .inl (fun _ => 0))), (am 10, .inl (cI, 5, .inl (fun _ => 0))), (am 11, .inl (cI, 40, .inl (fun _ => 0))), (am 12, .inl (cI, 40, .inl (fun _ => 0))), (am 13, .inl (cI, 40, .inl (fun _ => 0))), (am 14, .inl (cI, 40, .inl (fun _ => 0))), (am 15, .inl (cZ, 60, .inl (fun _ => 0))), (am 16, .inl (cI, 60, .inl (fun _ => 0))), (am 17, .inl (cZ, 5, .inl (fun _ => 0))), (am 18, .inl (cZ, 5, .inl (fun _ => 0))), (am 19, .inl (cI, 5, .inl (fun _ => 0))), (am 20, .inl (cI, 5, .inl (fun _ => 0))), (am 21, .inl (cI, 5, .inl (fun _ => 0)))] sz) (va_A [(am 0, .inr (9, mf0 am)), (am 6, .inl (cI, 5, .inl (fun _ => 0))), (am 7, .inl (cI, 5, .inl (fun _ => 0))), (am 8, .inl (cI, 30, .inl (fun _ => 0))), (am 9, .inl (cI, 30, .inl (fun _ => 0))), (am 10, .inl (cI, 5, .inl (fun _ => 0))), (am 11, .inl (cI, 40, .inl (fun _ => 0))), (am 12, .inl (cI, 40, .inl (fun _ => 0))), (am 13, .inl (cI, 40, .inl (fun _ => 0))), (am 14, .inl (cI, 40, .inl (fun _ => 0))), (am 15, .inl (cZ, 60, .inl (fun _ => 0))), (am 16, .inl (cI, 60, .inl (fun _ => 0))), (am 17, .inl (cZ, 5, .inl (fun _ => 0))), (am 18, .inl (cZ, 5, .inl (fun _ => 0))), (am 19, .inl (cI, 5, .inl (fun _ => 0))), (am 20, .inl (cI, 5, .inl (fun _ => 0))), (am 21, .inl (cI, 5, .inl (fun _ => 0)))] sz)) 0 0 (va_A [(am 0, .inr (9, mf0 am)), (am 6, .inl (cI, 5, .inl (fun _ => 0))), (am 7, .inl (cI, 5, .inl (fun _ => 0))), (am 8, .inl (cI, 30, .inl (fun _ => 0))), (am 9, .inl (cI, 30, .inl (fun _ => 0))), (am 10, .inl (cI, 5, .inl (fun _ => 0))), (am 11, .inl (cI, 40, .inl (fun _ => 0))), (am 12, .inl (cI, 40, .inl (fun _ => 0))), (am 13, .inl (cI, 40, .inl (fun _ => 0))), (am 14, .inl (cI, 40, .inl (fun _ => 0))), (am 15, .inl (cZ, 60, .inl (fun _ => 0))), (am 16, .inl (cI, 60, .inl (fun _ => 0))), (am 17, .inl (cZ, 5, .inl (fun _ => 0))), (am 18, .inl (cZ, 5, .inl (fun _ => 0))), (am 19, .inl (cI, 5, .inl (fun _ => 0))), (am 20, .inl (cI, 5, .inl (fun _ => 0))), (am 21, .inl (cI, 5, .inl (fun _ => 0)))] sz) := by
  refine z_enter (cc := cX9_land) (maxL := 2) (ret := (some .int)) (by decide) rfl (Nat.le_of_ble_eq_true rfl) ?_
  intro p e s m below meth c A ls Q H locs hx hb hr hml hown hts hlocks hin hK hP hD hA hX hS hAe hQ hl
  have hown : s.vm.findClass RX9 = some m.cls := hown
  have hi9 : ∀ w ∈ wsX90, w ∈ wsX9_land := fun w h => List.mem_cons_of_mem _ (List.mem_append_right _ h)
  have hk0 := hts (.fieldLink RX9 125 "MonthPushModel" "thrown" "I") (by decide +kernel)
  have hk1 := hts (.fieldLink RX9 31 "MonthPushModel" "lines" "[I") (by decide +kernel)
  have hk2 := hts (.fieldLink RX9 34 "MonthPushModel" "laws" "[I") (by decide +kernel)
  have hk3 := hts (.fieldLink RX9 43 "MonthPushModel" "sorts" "[I") (by decide +kernel)
  have hk4 := hts (.fieldLink RX9 74 "MonthPushModel" "parts" "[I") (by decide +kernel)
  have hk5 := hts (.fieldLink RX9 77 "MonthPushModel" "coded" "[I") (by decide +kernel)
  have hk6 := hts (.fieldLink RX9 71 "MonthPushModel" "noise" "[I") (by decide +kernel)
  have hk7 := hts (.fieldLink RX9 65 "MonthPushModel" "hasWage" "[Z") (by decide +kernel)
  have hk8 := hts (.fieldLink RX9 68 "MonthPushModel" "hasNoise" "[Z") (by decide +kernel)
  have hk9 := hts (.fieldLink RX9 166 "MonthPushModel" "token" "I") (by decide +kernel)
  have hk10 := hts (.fieldLink RX9 177 "MonthPushModel" "bad" "I") (by decide +kernel)
  have hk11 := hts (.fieldLink RX9 58 "MonthPushModel" "leaks" "[Z") (by decide +kernel)
  have hk12 := hts (.fieldLink RX9 62 "MonthPushModel" "leakBy" "[I") (by decide +kernel)
  have hl : lv_has ls 2 [(0, .ref (am 0))] := hl
  refine lv_aload_n hx hb dX9_land_0 rfl (lv_at hl 0 rfl) ?_
  refine lv_iconst (v := 0) hx hb dX9_land_1 (by decide) ?_
  refine z_put0 (D := (dC, dI)) (ci := 9) (v := .int 0) (ty := .int) (C := RX9) (T := TX9) (N := 60) hx hb hts hi9 tyX9 tyX9_ok nmX9 hown hK hP hD hS 0 rfl rfl 0 (by decide) hk0 (fun _ h9 => h9) rfl (by decide +kernel) rfl rfl rfl dX9_land_2 (fun H locs hP hS => ?_)
  refine lv_aload_n hx hb dX9_land_5 rfl (lv_at hl 0 rfl) ?_
  refine va_get (D := (dC, dI)) (ci := 9) (v := .ref (am 6)) (C := RX9) (T := TX9) (N := 60) hx hb hts hi9 hown hK hP 0 rfl rfl 16 (by decide) hk1 (fun _ h9 => h9) rfl dX9_land_6 ?_
  refine lv_iconst (v := 4) hx hb dX9_land_9 (by decide) ?_
  refine lv_iconst (v := 0) hx hb dX9_land_10 (by decide) ?_
  refine z_iast0 hx hb hK hP hD hS 1 1 rfl rfl (z_in (a := 4) (by decide) (by decide) (by decide)) rfl dX9_land_11 (fun H locs hP hS => ?_)
  refine lv_aload_n hx hb dX9_land_12 rfl (lv_at hl 0 rfl) ?_
  refine va_get (D := (dC, dI)) (ci := 9) (v := .ref (am 7)) (C := RX9) (T := TX9) (N := 60) hx hb hts hi9 hown hK hP 0 rfl rfl 17 (by decide) hk2 (fun _ h9 => h9) rfl dX9_land_13 ?_
  refine lv_iconst (v := 4) hx hb dX9_land_16 (by decide) ?_
  refine lv_iconst (v := 0) hx hb dX9_land_17 (by decide) ?_
  refine z_iast0 hx hb hK hP hD hS 2 1 rfl rfl (z_in (a := 4) (by decide) (by decide) (by decide)) rfl dX9_land_18 (fun H locs hP hS => ?_)
  refine lv_aload_n hx hb dX9_land_19 rfl (lv_at hl 0 rfl) ?_
  refine va_get (D := (dC, dI)) (ci := 9) (v := .ref (am 10)) (C := RX9) (T := TX9) (N := 60) hx hb hts hi9 hown hK hP 0 rfl rfl 20 (by decide) hk3 (fun _ h9 => h9) rfl dX9_land_20 ?_
  refine lv_iconst (v := 4) hx hb dX9_land_23 (by decide) ?_
  refine lv_iconst (v := 0) hx hb dX9_land_24 (by decide) ?_
  refine z_iast0 hx hb hK hP hD hS 5 1 rfl rfl (z_in (a := 4) (by decide) (by decide) (by decide)) rfl dX9_land_25 (fun H locs hP hS => ?_)
  refine lv_aload_n hx hb dX9_land_26 rfl (lv_at hl 0 rfl) ?_
  refine va_get (D := (dC, dI)) (ci := 9) (v := .ref (am 20)) (C := RX9) (T := TX9) (N := 60) hx hb hts hi9 hown hK hP 0 rfl rfl 30 (by decide) hk4 (fun _ h9 => h9) rfl dX9_land_27 ?_
  refine lv_iconst (v := 4) hx hb dX9_land_30 (by decide) ?_
  refine lv_iconst (v := 0) hx hb dX9_land_31 (by decide) ?_
  refine z_iast0 hx hb hK hP hD hS 15 1 rfl rfl (z_in (a := 4) (by decide) (by decide) (by decide)) rfl dX9_land_32 (fun H locs hP hS => ?_)
  refine lv_aload_n hx hb dX9_land_33 rfl (lv_at hl 0 rfl) ?_
  refine va_get (D := (dC, dI)) (ci := 9) (v := .ref (am 21)) (C := RX9) (T := TX9) (N := 60) hx hb hts hi9 hown hK hP 0 rfl rfl 31 (by decide) hk5 (fun _ h9 => h9) rfl dX9_land_34 ?_
  refine lv_iconst (v := 4) hx hb dX9_land_37 (by decide) ?_
  refine lv_iconst (v := 0) hx hb dX9_land_38 (by decide) ?_
  refine z_iast0 hx hb hK hP hD hS 16 1 rfl rfl (z_in (a := 4) (by decide) (by decide) (by decide)) rfl dX9_land_39 (fun H locs hP hS => ?_)
  refine lv_aload_n hx hb dX9_land_40 rfl (lv_at hl 0 rfl) ?_
  refine va_get (D := (dC, dI)) (ci := 9) (v := .ref (am 19)) (C := RX9) (T := TX9) (N := 60) hx hb hts hi9 hown hK hP 0 rfl rfl 29 (by decide) hk6 (fun _ h9 => h9) rfl dX9_land_41 ?_
  refine lv_iconst (v := 4) hx hb dX9_land_44 (by decide) ?_
  refine lv_iconst (v := 0) hx hb dX9_land_45 (by decide) ?_
  refine z_iast0 hx hb hK hP hD hS 14 1 rfl rfl (z_in (a := 4) (by decide) (by decide) (by decide)) rfl dX9_land_46 (fun H locs hP hS => ?_)
  refine lv_aload_n hx hb dX9_land_47 rfl (lv_at hl 0 rfl) ?_
  refine va_get (D := (dC, dI)) (ci := 9) (v := .ref (am 17)) (C := RX9) (T := TX9) (N := 60) hx hb hts hi9 hown hK hP 0 rfl rfl 27 (by decide) hk7 (fun _ h9 => h9) rfl dX9_land_48 ?_
  refine lv_iconst (v := 4) hx hb dX9_land_51 (by decide) ?_
  refine lv_iconst (v := 0) hx hb dX9_land_52 (by decide) ?_
  refine z_zast0 hx hb hK hP hD hS 12 3 rfl rfl (z_in (a := 4) (by decide) (by decide) (by decide)) (by decide) dX9_land_53 (fun H locs hP hS => ?_)
  refine lv_aload_n hx hb dX9_land_54 rfl (lv_at hl 0 rfl) ?_
  refine va_get (D := (dC, dI)) (ci := 9) (v := .ref (am 18)) (C := RX9) (T := TX9) (N := 60) hx hb hts hi9 hown hK hP 0 rfl rfl 28 (by decide) hk8 (fun _ h9 => h9) rfl dX9_land_55 ?_
  refine lv_iconst (v := 4) hx hb dX9_land_58 (by decide) ?_
  refine lv_iconst (v := 0) hx hb dX9_land_59 (by decide) ?_
  refine z_zast0 hx hb hK hP hD hS 13 3 rfl rfl (z_in (a := 4) (by decide) (by decide) (by decide)) (by decide) dX9_land_60 (fun H locs hP hS => ?_)
  refine lv_iconst (v := 0) hx hb dX9_land_61 (by decide) ?_
  refine lv_istore_n (lv' := [(1, .int 0), (0, .ref (am 0))]) hx hb dX9_land_62 rfl hl (by decide) rfl (fun ls hl => ?_)
  have hlp1 : ∀ (n i : Nat), i + n = 12 → 0 ≤ i → ∀ (H : Heap) (locs : List Loc), va_P (dC, dI) vwCl [(am 0, .inr (9, mf0 am)), (am 6, .inl (cI, 5, .inl (fun _ => 0))), (am 7, .inl (cI, 5, .inl (fun _ => 0))), (am 8, .inl (cI, 30, .inl (fun _ => 0))), (am 9, .inl (cI, 30, .inl (fun _ => 0))), (am 10, .inl (cI, 5, .inl (fun _ => 0))), (am 11, .inl (cI, 40, .inl (fun _ => 0))), (am 12, .inl (cI, 40, .inl (fun _ => 0))), (am 13, .inl (cI, 40, .inl (fun _ => 0))), (am 14, .inl (cI, 40, .inl (fun _ => 0))), (am 15, .inl (cZ, 60, .inl (fun _ => 0))), (am 16, .inl (cI, 60, .inl (fun _ => 0))), (am 17, .inl (cZ, 5, .inl (fun _ => 0))), (am 18, .inl (cZ, 5, .inl (fun _ => 0))), (am 19, .inl (cI, 5, .inl (fun _ => 0))), (am 20, .inl (cI, 5, .inl (fun _ => 0))), (am 21, .inl (cI, 5, .inl (fun _ => 0)))] H → va_S A s.heap H locs → ∀ (ls : Array Slot), lv_has ls 2 [(1, .int (nI i)), (0, .ref (am 0))] → W p l e ({ frames := 3, cells := 0, slots := 0, locals := 64 } : Room) s m ([.ref (am 0)] : List Value).toArray below meth c H locs 0 0 Q (F0 m 63 ls []) := by
    intro n
    induction n with
    | zero =>
      intro i hi hi0 H locs hP hS ls hl
      obtain rfl : i = 12 := by omega
      have hl : lv_has ls 2 [(1, .int 12), (0, .ref (am 0))] := hl
      refine lv_iload_n hx hb dX9_land_63 rfl (lv_at hl 0 rfl) ?_
      refine lv_bipush (v := 12) hx hb dX9_land_64 (by decide) ?_
      refine lv_icmp_ge (tgt := 95) hx hb dX9_land_66 (by decide) (fun _ => ?_) (fun c => absurd (by decide) c)
      refine lv_aload_n hx hb dX9_land_95 rfl (lv_at hl 1 rfl) ?_
      refine z_finv (w' := fun (u2 : Unit) => [(am 0, .inr (9, ((mf0 am).set 13 (.int (-1))))), (am 6, .inl (cI, 5, .inl (fun _ => 0))), (am 7, .inl (cI, 5, .inl (fun _ => 0))), (am 8, .inl (cI, 30, .inl (fun _ => 0))), (am 9, .inl (cI, 30, .inl (fun _ => 0))), (am 10, .inl (cI, 5, .inl (fun _ => 0))), (am 11, .inl (cI, 40, .inl (fun _ => 0))), (am 12, .inl (cI, 40, .inl (fun _ => 0))), (am 13, .inl (cI, 40, .inl (fun _ => 0))), (am 14, .inl (cI, 40, .inl (fun _ => 0))), (am 15, .inl (cZ, 60, .inl (fun _ => 0))), (am 16, .inl (cI, 60, .inl (fun _ => 0))), (am 17, .inl (cZ, 5, .inl (fun _ => 0))), (am 18, .inl (cZ, 5, .inl (fun _ => 0))), (am 19, .inl (cI, 5, .inl (fun _ => 0))), (am 20, .inl (cI, 5, .inl (fun _ => 0))), (am 21, .inl (cI, 5, .inl (fun _ => 0)))]) (va_runV (As := []) (rest := []) ⟨hx, hb, hml, hown, hts⟩ (c_X9_begins_158 l dC dI cB cI cJ cZ cP cQ am H.size) (cwV 0 hts gX9_land_X9_begins rfl rfl rfl (by decide +kernel) ⟨Nat.le_of_ble_eq_true rfl, Nat.le_of_ble_eq_true rfl⟩) (z_pV (ci := 9) hK hP hD zX_nil [0] (by decide) rfl rfl 0 rfl) rfl rfl hl.1 rfl (lv_room (Nat.le_of_ble_eq_true rfl)) dX9_land_96 ⟨Nat.le_of_ble_eq_true rfl, Nat.le_of_ble_eq_true rfl⟩) hP hD hS hA [0] [1, 2, 3, 4, 5, 6, 7, 8, 9, 10, 11, 12, 13, 14, 15, 16] [16, 0, 1, 2, 3, 4, 5, 6, 7, 8, 9, 10, 11, 12, 13, 14, 15] rfl rfl (by decide) (by decide) (fun _ => rfl) (by decide) (fun u2 H locs hp4 hP hD hS => ?_)
      have hP : va_P (dC, dI) vwCl [(am 0, .inr (9, ((mf0 am).set 13 (.int (-1))))), (am 6, .inl (cI, 5, .inl (fun _ => 0))), (am 7, .inl (cI, 5, .inl (fun _ => 0))), (am 8, .inl (cI, 30, .inl (fun _ => 0))), (am 9, .inl (cI, 30, .inl (fun _ => 0))), (am 10, .inl (cI, 5, .inl (fun _ => 0))), (am 11, .inl (cI, 40, .inl (fun _ => 0))), (am 12, .inl (cI, 40, .inl (fun _ => 0))), (am 13, .inl (cI, 40, .inl (fun _ => 0))), (am 14, .inl (cI, 40, .inl (fun _ => 0))), (am 15, .inl (cZ, 60, .inl (fun _ => 0))), (am 16, .inl (cI, 60, .inl (fun _ => 0))), (am 17, .inl (cZ, 5, .inl (fun _ => 0))), (am 18, .inl (cZ, 5, .inl (fun _ => 0))), (am 19, .inl (cI, 5, .inl (fun _ => 0))), (am 20, .inl (cI, 5, .inl (fun _ => 0))), (am 21, .inl (cI, 5, .inl (fun _ => 0)))] H := hP
      have hD : va_D A [(am 0, .inr (9, ((mf0 am).set 13 (.int (-1))))), (am 6, .inl (cI, 5, .inl (fun _ => 0))), (am 7, .inl (cI, 5, .inl (fun _ => 0))), (am 8, .inl (cI, 30, .inl (fun _ => 0))), (am 9, .inl (cI, 30, .inl (fun _ => 0))), (am 10, .inl (cI, 5, .inl (fun _ => 0))), (am 11, .inl (cI, 40, .inl (fun _ => 0))), (am 12, .inl (cI, 40, .inl (fun _ => 0))), (am 13, .inl (cI, 40, .inl (fun _ => 0))), (am 14, .inl (cI, 40, .inl (fun _ => 0))), (am 15, .inl (cZ, 60, .inl (fun _ => 0))), (am 16, .inl (cI, 60, .inl (fun _ => 0))), (am 17, .inl (cZ, 5, .inl (fun _ => 0))), (am 18, .inl (cZ, 5, .inl (fun _ => 0))), (am 19, .inl (cI, 5, .inl (fun _ => 0))), (am 20, .inl (cI, 5, .inl (fun _ => 0))), (am 21, .inl (cI, 5, .inl (fun _ => 0)))] := hD
      refine W.widen (k := 0) (n := 0) (by decide) (by decide) ?_
      refine lv_aload_n hx hb dX9_land_99 rfl (lv_at hl 1 rfl) ?_
      refine z_fini (w' := fun (u5 : Unit) => [(am 0, .inr (9, ((mf0 am).set 13 (.int (-1))))), (am 6, .inl (cI, 5, .inl (fun _ => 0))), (am 7, .inl (cI, 5, .inl (fun _ => 0))), (am 8, .inl (cI, 30, .inl (fun _ => 0))), (am 9, .inl (cI, 30, .inl (fun _ => 0))), (am 10, .inl (cI, 5, .inl (fun _ => 0))), (am 11, .inl (cI, 40, .inl (fun _ => 0))), (am 12, .inl (cI, 40, .inl (fun _ => 0))), (am 13, .inl (cI, 40, .inl (fun _ => 0))), (am 14, .inl (cI, 40, .inl (fun _ => 0))), (am 15, .inl (cZ, 60, .inl (fun _ => 0))), (am 16, .inl (cI, 60, .inl (fun _ => 0))), (am 17, .inl (cZ, 5, .inl (fun _ => 0))), (am 18, .inl (cZ, 5, .inl (fun _ => 0))), (am 19, .inl (cI, 5, .inl (fun _ => 0))), (am 20, .inl (cI, 5, .inl (fun _ => 0))), (am 21, .inl (cI, 5, .inl (fun _ => 0)))]) (va_runV (As := []) (rest := []) ⟨hx, hb, hml, hown, hts⟩ (c_X9_isGood_159 l dC dI cB cI cJ cZ cP cQ am H.size) (cwV 0 hts gX9_land_X9_isGood rfl rfl rfl (by decide +kernel) ⟨Nat.le_of_ble_eq_true rfl, Nat.le_of_ble_eq_true rfl⟩) (z_pV (ci := 9) hK hP hD zX_nil [0] (by decide) rfl rfl 0 rfl) rfl rfl hl.1 rfl (lv_room (Nat.le_of_ble_eq_true rfl)) dX9_land_100 ⟨Nat.le_of_ble_eq_true rfl, Nat.le_of_ble_eq_true rfl⟩) hP hD hS hA [0] [1, 2, 3, 4, 5, 6, 7, 8, 9, 10, 11, 12, 13, 14, 15, 16] [16, 0, 1, 2, 3, 4, 5, 6, 7, 8, 9, 10, 11, 12, 13, 14, 15] rfl rfl (by decide) (by decide) (fun _ => rfl) (by decide) (fun r6 u5 H locs hp7 hP hD hS => ?_)
      have hP : va_P (dC, dI) vwCl [(am 0, .inr (9, ((mf0 am).set 13 (.int (-1))))), (am 6, .inl (cI, 5, .inl (fun _ => 0))), (am 7, .inl (cI, 5, .inl (fun _ => 0))), (am 8, .inl (cI, 30, .inl (fun _ => 0))), (am 9, .inl (cI, 30, .inl (fun _ => 0))), (am 10, .inl (cI, 5, .inl (fun _ => 0))), (am 11, .inl (cI, 40, .inl (fun _ => 0))), (am 12, .inl (cI, 40, .inl (fun _ => 0))), (am 13, .inl (cI, 40, .inl (fun _ => 0))), (am 14, .inl (cI, 40, .inl (fun _ => 0))), (am 15, .inl (cZ, 60, .inl (fun _ => 0))), (am 16, .inl (cI, 60, .inl (fun _ => 0))), (am 17, .inl (cZ, 5, .inl (fun _ => 0))), (am 18, .inl (cZ, 5, .inl (fun _ => 0))), (am 19, .inl (cI, 5, .inl (fun _ => 0))), (am 20, .inl (cI, 5, .inl (fun _ => 0))), (am 21, .inl (cI, 5, .inl (fun _ => 0)))] H := hP
      have hD : va_D A [(am 0, .inr (9, ((mf0 am).set 13 (.int (-1))))), (am 6, .inl (cI, 5, .inl (fun _ => 0))), (am 7, .inl (cI, 5, .inl (fun _ => 0))), (am 8, .inl (cI, 30, .inl (fun _ => 0))), (am 9, .inl (cI, 30, .inl (fun _ => 0))), (am 10, .inl (cI, 5, .inl (fun _ => 0))), (am 11, .inl (cI, 40, .inl (fun _ => 0))), (am 12, .inl (cI, 40, .inl (fun _ => 0))), (am 13, .inl (cI, 40, .inl (fun _ => 0))), (am 14, .inl (cI, 40, .inl (fun _ => 0))), (am 15, .inl (cZ, 60, .inl (fun _ => 0))), (am 16, .inl (cI, 60, .inl (fun _ => 0))), (am 17, .inl (cZ, 5, .inl (fun _ => 0))), (am 18, .inl (cZ, 5, .inl (fun _ => 0))), (am 19, .inl (cI, 5, .inl (fun _ => 0))), (am 20, .inl (cI, 5, .inl (fun _ => 0))), (am 21, .inl (cI, 5, .inl (fun _ => 0)))] := hD
      refine W.widen (k := 0) (n := 0) (by decide) (by decide) ?_
      obtain rfl : r6 = 1 := hp7
      refine lv_if_eq (tgt := 141) hx hb dX9_land_103 (by decide) (fun c => absurd c (by decide)) (fun _ => ?_)
      refine lv_aload_n hx hb dX9_land_106 rfl (lv_at hl 1 rfl) ?_
      refine va_get (D := (dC, dI)) (ci := 9) (v := .int 0) (C := RX9) (T := TX9) (N := 60) hx hb hts hi9 hown hK hP 0 rfl rfl 8 (by decide) hk9 (fun _ h9 => h9) rfl dX9_land_107 ?_
      refine lv_if_eq (tgt := 141) hx hb dX9_land_110 (by decide) (fun _ => ?_) (fun c => absurd (by decide) c)
      refine lv_aload_n hx hb dX9_land_141 rfl (lv_at hl 1 rfl) ?_
      refine z_finv (w' := fun (u8 : Unit) => [(am 0, .inr (9, ((mf0 am).set 13 (.int (-1))))), (am 6, .inl (cI, 5, .inl (fun _ => 0))), (am 7, .inl (cI, 5, .inl (fun _ => 0))), (am 8, .inl (cI, 30, .inl (fun _ => 0))), (am 9, .inl (cI, 30, .inl (fun _ => 0))), (am 10, .inl (cI, 5, .inl (fun _ => 0))), (am 11, .inl (cI, 40, .inl (fun _ => 0))), (am 12, .inl (cI, 40, .inl (fun _ => 0))), (am 13, .inl (cI, 40, .inl (fun _ => 0))), (am 14, .inl (cI, 40, .inl (fun _ => 0))), (am 15, .inl (cZ, 60, .inl (fun _ => 0))), (am 16, .inl (cI, 60, .inl (fun _ => 0))), (am 17, .inl (cZ, 5, .inl (fun _ => 0))), (am 18, .inl (cZ, 5, .inl (fun _ => 0))), (am 19, .inl (cI, 5, .inl (fun _ => 0))), (am 20, .inl (cI, 5, .inl (fun _ => 0))), (am 21, .inl (cI, 5, .inl (fun _ => 0)))]) (va_runV (As := []) (rest := []) ⟨hx, hb, hml, hown, hts⟩ (c_X9_isOver_160 l dC dI cB cI cJ cZ cP cQ am H.size) (cwV 0 hts gX9_land_X9_isOver rfl rfl rfl (by decide +kernel) ⟨Nat.le_of_ble_eq_true rfl, Nat.le_of_ble_eq_true rfl⟩) (z_pV (ci := 9) hK hP hD zX_nil [0] (by decide) rfl rfl 0 rfl) rfl rfl hl.1 rfl (lv_room (Nat.le_of_ble_eq_true rfl)) dX9_land_142 ⟨Nat.le_of_ble_eq_true rfl, Nat.le_of_ble_eq_true rfl⟩) hP hD hS hA [0] [1, 2, 3, 4, 5, 6, 7, 8, 9, 10, 11, 12, 13, 14, 15, 16] [16, 0, 1, 2, 3, 4, 5, 6, 7, 8, 9, 10, 11, 12, 13, 14, 15] rfl rfl (by decide) (by decide) (fun _ => rfl) (by decide) (fun u8 H locs hp10 hP hD hS => ?_)
      have hP : va_P (dC, dI) vwCl [(am 0, .inr (9, ((mf0 am).set 13 (.int (-1))))), (am 6, .inl (cI, 5, .inl (fun _ => 0))), (am 7, .inl (cI, 5, .inl (fun _ => 0))), (am 8, .inl (cI, 30, .inl (fun _ => 0))), (am 9, .inl (cI, 30, .inl (fun _ => 0))), (am 10, .inl (cI, 5, .inl (fun _ => 0))), (am 11, .inl (cI, 40, .inl (fun _ => 0))), (am 12, .inl (cI, 40, .inl (fun _ => 0))), (am 13, .inl (cI, 40, .inl (fun _ => 0))), (am 14, .inl (cI, 40, .inl (fun _ => 0))), (am 15, .inl (cZ, 60, .inl (fun _ => 0))), (am 16, .inl (cI, 60, .inl (fun _ => 0))), (am 17, .inl (cZ, 5, .inl (fun _ => 0))), (am 18, .inl (cZ, 5, .inl (fun _ => 0))), (am 19, .inl (cI, 5, .inl (fun _ => 0))), (am 20, .inl (cI, 5, .inl (fun _ => 0))), (am 21, .inl (cI, 5, .inl (fun _ => 0)))] H := hP
      have hD : va_D A [(am 0, .inr (9, ((mf0 am).set 13 (.int (-1))))), (am 6, .inl (cI, 5, .inl (fun _ => 0))), (am 7, .inl (cI, 5, .inl (fun _ => 0))), (am 8, .inl (cI, 30, .inl (fun _ => 0))), (am 9, .inl (cI, 30, .inl (fun _ => 0))), (am 10, .inl (cI, 5, .inl (fun _ => 0))), (am 11, .inl (cI, 40, .inl (fun _ => 0))), (am 12, .inl (cI, 40, .inl (fun _ => 0))), (am 13, .inl (cI, 40, .inl (fun _ => 0))), (am 14, .inl (cI, 40, .inl (fun _ => 0))), (am 15, .inl (cZ, 60, .inl (fun _ => 0))), (am 16, .inl (cI, 60, .inl (fun _ => 0))), (am 17, .inl (cZ, 5, .inl (fun _ => 0))), (am 18, .inl (cZ, 5, .inl (fun _ => 0))), (am 19, .inl (cI, 5, .inl (fun _ => 0))), (am 20, .inl (cI, 5, .inl (fun _ => 0))), (am 21, .inl (cI, 5, .inl (fun _ => 0)))] := hD
      refine W.widen (k := 0) (n := 0) (by decide) (by decide) ?_
      refine lv_aload_n hx hb dX9_land_145 rfl (lv_at hl 1 rfl) ?_
      refine va_get (D := (dC, dI)) (ci := 9) (v := .int 0) (C := RX9) (T := TX9) (N := 60) hx hb hts hi9 hown hK hP 0 rfl rfl 12 (by decide) hk10 (fun _ h9 => h9) rfl dX9_land_146 ?_
      refine lv_if_eq (tgt := 155) hx hb dX9_land_149 (by decide) (fun _ => ?_) (fun c => absurd (by decide) c)
      refine lv_aload_n hx hb dX9_land_155 rfl (lv_at hl 1 rfl) ?_
      refine lv_iconst (v := 4) hx hb dX9_land_156 (by decide) ?_
      refine lv_iconst (v := 0) hx hb dX9_land_157 (by decide) ?_
      refine z_finv (w' := fun (u11 : Unit) => [(am 0, .inr (9, ((mf0 am).set 13 (.int (-1))))), (am 6, .inl (cI, 5, .inl (fun _ => 0))), (am 7, .inl (cI, 5, .inl (fun _ => 0))), (am 8, .inl (cI, 30, .inl (fun _ => 0))), (am 9, .inl (cI, 30, .inl (fun _ => 0))), (am 10, .inl (cI, 5, .inl (fun _ => 0))), (am 11, .inl (cI, 40, .inl (fun _ => 0))), (am 12, .inl (cI, 40, .inl (fun _ => 0))), (am 13, .inl (cI, 40, .inl (fun _ => 0))), (am 14, .inl (cI, 40, .inl (fun _ => 0))), (am 15, .inl (cZ, 60, .inl (fun _ => 0))), (am 16, .inl (cI, 60, .inl (fun _ => 0))), (am 17, .inl (cZ, 5, .inl (fun _ => 0))), (am 18, .inl (cZ, 5, .inl (fun _ => 0))), (am 19, .inl (cI, 5, .inl (fun _ => 0))), (am 20, .inl (cI, 5, .inl (fun _ => 0))), (am 21, .inl (cI, 5, .inl (fun _ => 0)))]) (va_runV (As := [.int 4, .int 0]) (rest := []) ⟨hx, hb, hml, hown, hts⟩ (c_X9_copyLand_161 l dC dI cB cI cJ cZ cP cQ am H.size) (cwV 2 hts gX9_land_X9_copyLand rfl rfl rfl (by decide +kernel) ⟨Nat.le_of_ble_eq_true rfl, Nat.le_of_ble_eq_true rfl⟩) (z_pV (ci := 9) hK hP hD zX_nil [0, 1, 2, 3, 4, 5, 6, 7, 8, 9, 11, 12, 14, 15, 16] (by decide) rfl rfl 0 rfl) rfl rfl hl.1 rfl (lv_room (Nat.le_of_ble_eq_true rfl)) dX9_land_158 ⟨Nat.le_of_ble_eq_true rfl, Nat.le_of_ble_eq_true rfl⟩) hP hD hS hA [0, 1, 2, 3, 4, 5, 6, 7, 8, 9, 11, 12, 14, 15, 16] [10, 13] [2, 3, 4, 5, 6, 7, 8, 9, 10, 11, 0, 12, 13, 1, 14, 15, 16] rfl rfl (by decide) (by decide) (fun _ => rfl) (by decide) (fun u11 H locs hp13 hP hD hS => ?_)
      have hP : va_P (dC, dI) vwCl [(am 0, .inr (9, ((mf0 am).set 13 (.int (-1))))), (am 6, .inl (cI, 5, .inl (fun _ => 0))), (am 7, .inl (cI, 5, .inl (fun _ => 0))), (am 8, .inl (cI, 30, .inl (fun _ => 0))), (am 9, .inl (cI, 30, .inl (fun _ => 0))), (am 10, .inl (cI, 5, .inl (fun _ => 0))), (am 11, .inl (cI, 40, .inl (fun _ => 0))), (am 12, .inl (cI, 40, .inl (fun _ => 0))), (am 13, .inl (cI, 40, .inl (fun _ => 0))), (am 14, .inl (cI, 40, .inl (fun _ => 0))), (am 15, .inl (cZ, 60, .inl (fun _ => 0))), (am 16, .inl (cI, 60, .inl (fun _ => 0))), (am 17, .inl (cZ, 5, .inl (fun _ => 0))), (am 18, .inl (cZ, 5, .inl (fun _ => 0))), (am 19, .inl (cI, 5, .inl (fun _ => 0))), (am 20, .inl (cI, 5, .inl (fun _ => 0))), (am 21, .inl (cI, 5, .inl (fun _ => 0)))] H := hP
      have hD : va_D A [(am 0, .inr (9, ((mf0 am).set 13 (.int (-1))))), (am 6, .inl (cI, 5, .inl (fun _ => 0))), (am 7, .inl (cI, 5, .inl (fun _ => 0))), (am 8, .inl (cI, 30, .inl (fun _ => 0))), (am 9, .inl (cI, 30, .inl (fun _ => 0))), (am 10, .inl (cI, 5, .inl (fun _ => 0))), (am 11, .inl (cI, 40, .inl (fun _ => 0))), (am 12, .inl (cI, 40, .inl (fun _ => 0))), (am 13, .inl (cI, 40, .inl (fun _ => 0))), (am 14, .inl (cI, 40, .inl (fun _ => 0))), (am 15, .inl (cZ, 60, .inl (fun _ => 0))), (am 16, .inl (cI, 60, .inl (fun _ => 0))), (am 17, .inl (cZ, 5, .inl (fun _ => 0))), (am 18, .inl (cZ, 5, .inl (fun _ => 0))), (am 19, .inl (cI, 5, .inl (fun _ => 0))), (am 20, .inl (cI, 5, .inl (fun _ => 0))), (am 21, .inl (cI, 5, .inl (fun _ => 0)))] := hD
      refine W.widen (k := 0) (n := 0) (by decide) (by decide) ?_
      refine lv_aload_n hx hb dX9_land_161 rfl (lv_at hl 1 rfl) ?_
      refine va_get (D := (dC, dI)) (ci := 9) (v := .ref (am 6)) (C := RX9) (T := TX9) (N := 60) hx hb hts hi9 hown hK hP 0 rfl rfl 16 (by decide) hk1 (fun _ h9 => h9) rfl dX9_land_162 ?_
      refine lv_iconst (v := 0) hx hb dX9_land_165 (by decide) ?_
      refine va_iald hx hb hK hP 1 1 rfl rfl (z_in (a := 0) (by decide) (by decide) (by decide)) dX9_land_166 ?_
      refine z_topi (y := 0) rfl ?_
      have hP9 := hP.sub (ws' := []) [] rfl
      have hD9 := hD.sub (ws' := []) [] (by decide) rfl
      exact z_iret () hx hb hr hlocks hK hP9 hD9 hS hAe hQ rfl rfl dX9_land_167
    | succ n ih =>
      intro i hi hi0 H locs hP hS ls hl
      have hlt : i < 12 := by omega
      refine lv_iload_n hx hb dX9_land_63 rfl (lv_at hl 0 rfl) ?_
      refine lv_bipush (v := 12) hx hb dX9_land_64 (by decide) ?_
      refine lv_icmp_ge (tgt := 95) hx hb dX9_land_66 (by decide) (fun c => absurd (show 12 ≤ (i : Int) from z_le (by decide) (nI_toInt (by omega)) c) (by omega)) (fun _ => ?_)
      refine lv_aload_n hx hb dX9_land_69 rfl (lv_at hl 1 rfl) ?_
      refine va_get (D := (dC, dI)) (ci := 9) (v := .ref (am 15)) (C := RX9) (T := TX9) (N := 60) hx hb hts hi9 hown hK hP 0 rfl rfl 25 (by decide) hk11 (fun _ h9 => h9) rfl dX9_land_70 ?_
      refine lv_bipush (v := 48) hx hb dX9_land_73 (by decide) ?_
      refine lv_iload_n hx hb dX9_land_75 rfl (lv_at hl 0 rfl) ?_
      refine lv_iadd hx hb dX9_land_76 ?_
      refine z_topi (y := nI (48 + i)) (nI_add 48 i) ?_
      refine lv_iconst (v := 0) hx hb dX9_land_77 (by decide) ?_
      refine z_zast0 hx hb hK hP hD hS 10 3 rfl rfl (z_in (nI_toInt (by omega)) (by omega) (by omega)) (by decide) dX9_land_78 (fun H locs hP hS => ?_)
      refine lv_aload_n hx hb dX9_land_79 rfl (lv_at hl 1 rfl) ?_
      refine va_get (D := (dC, dI)) (ci := 9) (v := .ref (am 16)) (C := RX9) (T := TX9) (N := 60) hx hb hts hi9 hown hK hP 0 rfl rfl 26 (by decide) hk12 (fun _ h9 => h9) rfl dX9_land_80 ?_
      refine lv_bipush (v := 48) hx hb dX9_land_83 (by decide) ?_
      refine lv_iload_n hx hb dX9_land_85 rfl (lv_at hl 0 rfl) ?_
      refine lv_iadd hx hb dX9_land_86 ?_
      refine z_topi (y := nI (48 + i)) (nI_add 48 i) ?_
      refine lv_iconst (v := 0) hx hb dX9_land_87 (by decide) ?_
      refine z_iast0 hx hb hK hP hD hS 11 1 rfl rfl (z_in (nI_toInt (by omega)) (by omega) (by omega)) rfl dX9_land_88 (fun H locs hP hS => ?_)
      refine lv_iinc (v := nI (i + 1)) (lv' := [(1, .int (nI (i + 1))), (0, .ref (am 0))]) hx hb dX9_land_89 hl (k := 0) rfl (nI_1 i) (by decide) rfl (fun ls hl => ?_)
      refine lv_goto (tgt := 63) hx hb dX9_land_92 (by decide) ?_
      exact ih (i + 1) (by omega) (by omega) _ _ hP hS ls (lv_sub hl [0, 1] rfl)
  exact hlp1 12 0 rfl (by omega) _ _ hP hS ls (lv_sub hl [0, 1] rfl)
set_option maxHeartbeats 4000000 in
set_option maxRecDepth 100000 in
theorem c_X9_in_164 (l : Launch) (dC : Nat → ClassId) (dI : Nat → Nat → Nat) (cB cI cJ cZ cP cQ : ClassId) (sz : Nat) (p0 : Int32) : Met l yX9_in wsX9_in ({ frames := 0, cells := 0, slots := 0, locals := 0 } : Room) (zPc [.long p0.toInt64, .long 0, .long (-1)] (dC, dI) (zT cB cI cJ cZ cP cQ) [] sz [] []) (va_Qi (fun r _ => (fun r => (r = 0 ∧ p0.toInt < 0) ∨ (r = 0 ∧ 0 ≤ p0.toInt)) r) (zB (dC, dI) (zT cB cI cJ cZ cP cQ) (fun _ : Unit => []) [] sz) (va_A [] sz)) 0 0 (va_A [] sz) := by
  refine z_enter (cc := cX9_in) (maxL := 6) (ret := (some .boolean)) (by decide) rfl (Nat.le_of_ble_eq_true rfl) ?_
  intro p e s m below meth c A ls Q H locs hx hb hr hml hown hts hlocks hin hK hP hD hA hX hS hAe hQ hl
  have hown : s.vm.findClass RX9 = some m.cls := hown
  have hl : lv_has ls 6 [(0, .long p0.toInt64), (2, .long 0), (4, .long (-1))] := hl
  refine lv_lload_n hx hb dX9_in_0 rfl (lv_at hl 0 rfl) ?_
  refine lv_lload_n hx hb dX9_in_1 rfl (lv_at hl 1 rfl) ?_
  refine W.lcmp hx hb dX9_in_2 ?_
  refine lv_if_lt (tgt := 17) hx hb dX9_in_3 (by decide) (fun c_1 => ?_) (fun c_1 => ?_)
  · have f2 : p0.toInt < 0 := z_llt (z_i2l p0) (by decide) c_1
    refine lv_iconst (v := 0) hx hb dX9_in_17 (by decide) ?_
    exact z_zret () hx hb hr hlocks hK hP hD hS hAe hQ rfl (Or.inl (⟨rfl, f2⟩)) (by decide) dX9_in_18
  · have f2 : 0 ≤ p0.toInt := z_lnlt (z_i2l p0) (by decide) c_1
    refine lv_lload_n hx hb dX9_in_6 rfl (lv_at hl 0 rfl) ?_
    refine lv_lload hx hb dX9_in_7 (lv_at hl 2 rfl) ?_
    refine W.lcmp hx hb dX9_in_9 ?_
    refine lv_if_gt (tgt := 17) hx hb dX9_in_10 (by decide) (fun _ => ?_) (fun c => absurd (show p0.toInt ≤ (-1) from z_lngt (z_i2l p0) (by decide) c) (by omega))
    refine lv_iconst (v := 0) hx hb dX9_in_17 (by decide) ?_
    exact z_zret () hx hb hr hlocks hK hP hD hS hAe hQ rfl (Or.inr ⟨rfl, f2⟩) (by decide) dX9_in_18
set_option maxHeartbeats 4000000 in
set_option maxRecDepth 100000 in
theorem c_X9_isState_164 (l : Launch) (dC : Nat → ClassId) (dI : Nat → Nat → Nat) (cB cI cJ cZ cP cQ : ClassId) (am : Nat → Nat) (sz : Nat) (p1 : Int32) : Met l yX9_isState wsX9_isState ({ frames := 1, cells := 0, slots := 0, locals := 25 } : Room) (zPc [.ref (am 0), .int p1] (dC, dI) (zT cB cI cJ cZ cP cQ) [(am 0, .inr (9, mf0 am)), (am 7, .inl (cI, 5, .inl (fun _ => 0)))] sz [] []) (va_Qi (fun r _ => (fun r => (r = 0 ∧ p1.toInt < 0) ∨ (r = 0 ∧ 0 ≤ p1.toInt)) r) (zB (dC, dI) (zT cB cI cJ cZ cP cQ) (fun _ : Unit => [(am 0, .inr (9, mf0 am)), (am 7, .inl (cI, 5, .inl (fun _ => 0)))]) [(am 0, .inr (9, mf0 am)), (am 7, .inl (cI, 5, .inl (fun _ => 0)))] sz) (va_A [(am 0, .inr (9, mf0 am)), (am 7, .inl (cI, 5, .inl (fun _ => 0)))] sz)) 0 0 (va_A [(am 0, .inr (9, mf0 am)), (am 7, .inl (cI, 5, .inl (fun _ => 0)))] sz) := by
  refine z_enter (cc := cX9_isState) (maxL := 2) (ret := (some .boolean)) (by decide) rfl (Nat.le_of_ble_eq_true rfl) ?_
  intro p e s m below meth c A ls Q H locs hx hb hr hml hown hts hlocks hin hK hP hD hA hX hS hAe hQ hl
  have hown : s.vm.findClass RX9 = some m.cls := hown
  have hi9 : ∀ w ∈ wsX90, w ∈ wsX9_isState := fun w h => List.mem_cons_of_mem _ (List.mem_append_right _ h)
  have hk0 := hts (.fieldLink RX9 34 "MonthPushModel" "laws" "[I") (by decide +kernel)
  have hl : lv_has ls 2 [(0, .ref (am 0)), (1, .int p1)] := hl
  refine lv_iload_n hx hb dX9_isState_0 rfl (lv_at hl 1 rfl) ?_
  refine lv_i2l hx hb dX9_isState_1 rfl ?_
  refine lv_lconst (v := 0) hx hb dX9_isState_2 (by decide) ?_
  refine lv_aload_n hx hb dX9_isState_3 rfl (lv_at hl 0 rfl) ?_
  refine va_get (D := (dC, dI)) (ci := 9) (v := .ref (am 7)) (C := RX9) (T := TX9) (N := 60) hx hb hts hi9 hown hK hP 0 rfl rfl 17 (by decide) hk0 (fun _ h9 => h9) rfl dX9_isState_4 ?_
  refine lv_iconst (v := 0) hx hb dX9_isState_7 (by decide) ?_
  refine va_iald hx hb hK hP 1 1 rfl rfl (z_in (a := 0) (by decide) (by decide) (by decide)) dX9_isState_8 ?_
  refine z_topi (y := 0) rfl ?_
  refine lv_iconst (v := 1) hx hb dX9_isState_9 (by decide) ?_
  refine lv_isub hx hb dX9_isState_10 ?_
  refine z_topi (y := (-1)) (by decide +kernel) ?_
  refine lv_i2l (v := (-1)) hx hb dX9_isState_11 (by decide) ?_
  refine z_fini (w' := fun (u1 : Unit) => [(am 0, .inr (9, mf0 am)), (am 7, .inl (cI, 5, .inl (fun _ => 0)))]) (va_runS (As := [.long p1.toInt64, .long 0, .long (-1)]) (rest := []) ⟨hx, hb, hml, hown, hts⟩ (c_X9_in_164 l dC dI cB cI cJ cZ cP cQ H.size p1) (va_cwS 3 hts gX9_isState_X9_in rfl rfl rfl (by decide +kernel) ⟨Nat.le_of_ble_eq_true rfl, Nat.le_of_ble_eq_true rfl⟩) (z_pS hK hP hD zX_nil [] (by decide) rfl) rfl rfl hl.1 rfl (lv_room (Nat.le_of_ble_eq_true rfl)) dX9_isState_12 ⟨Nat.le_of_ble_eq_true rfl, Nat.le_of_ble_eq_true rfl⟩) hP hD hS hA [] [0, 1] [0, 1] rfl rfl (by decide) (by decide) (fun _ => rfl) (by decide) (fun r2 u1 H locs hp3 hP hD hS => ?_)
  have hP : va_P (dC, dI) vwCl [(am 0, .inr (9, mf0 am)), (am 7, .inl (cI, 5, .inl (fun _ => 0)))] H := hP
  have hD : va_D A [(am 0, .inr (9, mf0 am)), (am 7, .inl (cI, 5, .inl (fun _ => 0)))] := hD
  refine W.widen (k := 0) (n := 0) (by decide) (by decide) ?_
  rcases hp3 with ⟨rfl, f4⟩ | ⟨rfl, f5⟩
  · exact z_zret () hx hb hr hlocks hK hP hD hS hAe hQ rfl (Or.inl (⟨rfl, f4⟩)) (by decide) dX9_isState_15
  · exact z_zret () hx hb hr hlocks hK hP hD hS hAe hQ rfl (Or.inr ⟨rfl, f5⟩) (by decide) dX9_isState_15
set_option maxHeartbeats 4000000 in
set_option maxRecDepth 100000 in
theorem c_X9_forced_164 (l : Launch) (dC : Nat → ClassId) (dI : Nat → Nat → Nat) (cB cI cJ cZ cP cQ : ClassId) (am : Nat → Nat) (sz : Nat) (p1 : Int32) (p2 : Int32) : Met l yX9_forced wsX9_forced ({ frames := 2, cells := 0, slots := 0, locals := 46 } : Room) (zPc [.ref (am 0), .int p1, .int p2] (dC, dI) (zT cB cI cJ cZ cP cQ) [(am 0, .inr (9, mf0 am)), (am 7, .inl (cI, 5, .inl (fun _ => 0)))] sz [] []) (va_Qi (fun r _ => (fun r => (r = (-2) ∧ p1.toInt < 0) ∨ (r = (-2) ∧ 0 ≤ p1.toInt)) r) (zB (dC, dI) (zT cB cI cJ cZ cP cQ) (fun _ : Unit => []) [(am 0, .inr (9, mf0 am)), (am 7, .inl (cI, 5, .inl (fun _ => 0)))] sz) (va_A [(am 0, .inr (9, mf0 am)), (am 7, .inl (cI, 5, .inl (fun _ => 0)))] sz)) 0 0 (va_A [(am 0, .inr (9, mf0 am)), (am 7, .inl (cI, 5, .inl (fun _ => 0)))] sz) := by
  refine z_enter (cc := cX9_forced) (maxL := 3) (ret := (some .int)) (by decide) rfl (Nat.le_of_ble_eq_true rfl) ?_
  intro p e s m below meth c A ls Q H locs hx hb hr hml hown hts hlocks hin hK hP hD hA hX hS hAe hQ hl
  have hown : s.vm.findClass RX9 = some m.cls := hown
  have hi9 : ∀ w ∈ wsX90, w ∈ wsX9_forced := fun w h => List.mem_cons_of_mem _ (List.mem_append_right _ h)
  have hk0 := hts (.fieldLink RX9 125 "MonthPushModel" "thrown" "I") (by decide +kernel)
  have hl : lv_has ls 3 [(0, .ref (am 0)), (1, .int p1), (2, .int p2)] := hl
  refine lv_aload_n hx hb dX9_forced_0 rfl (lv_at hl 0 rfl) ?_
  refine lv_iconst (v := 0) hx hb dX9_forced_1 (by decide) ?_
  refine z_put0 (D := (dC, dI)) (ci := 9) (v := .int 0) (ty := .int) (C := RX9) (T := TX9) (N := 60) hx hb hts hi9 tyX9 tyX9_ok nmX9 hown hK hP hD hS 0 rfl rfl 0 (by decide) hk0 (fun _ h9 => h9) rfl (by decide +kernel) rfl rfl rfl dX9_forced_2 (fun H locs hP hS => ?_)
  refine lv_aload_n hx hb dX9_forced_5 rfl (lv_at hl 0 rfl) ?_
  refine lv_iload_n hx hb dX9_forced_6 rfl (lv_at hl 1 rfl) ?_
  refine z_fini (w' := fun (u1 : Unit) => [(am 0, .inr (9, mf0 am)), (am 7, .inl (cI, 5, .inl (fun _ => 0)))]) (va_runV (As := [.int p1]) (rest := []) ⟨hx, hb, hml, hown, hts⟩ (c_X9_isState_164 l dC dI cB cI cJ cZ cP cQ am H.size p1) (cwV 1 hts gX9_forced_X9_isState rfl rfl rfl (by decide +kernel) ⟨Nat.le_of_ble_eq_true rfl, Nat.le_of_ble_eq_true rfl⟩) (z_pV (ci := 9) hK hP hD zX_nil [0, 1] (by decide) rfl rfl 0 rfl) rfl rfl hl.1 rfl (lv_room (Nat.le_of_ble_eq_true rfl)) dX9_forced_7 ⟨Nat.le_of_ble_eq_true rfl, Nat.le_of_ble_eq_true rfl⟩) hP hD hS hA [0, 1] [] [0, 1] rfl rfl (by decide) (by decide) (fun _ => rfl) (by decide) (fun r2 u1 H locs hp3 hP hD hS => ?_)
  have hP : va_P (dC, dI) vwCl [(am 0, .inr (9, mf0 am)), (am 7, .inl (cI, 5, .inl (fun _ => 0)))] H := hP
  have hD : va_D A [(am 0, .inr (9, mf0 am)), (am 7, .inl (cI, 5, .inl (fun _ => 0)))] := hD
  refine W.widen (k := 0) (n := 0) (by decide) (by decide) ?_
  rcases hp3 with ⟨rfl, f4⟩ | ⟨rfl, f5⟩
  · refine lv_if_eq (tgt := 29) hx hb dX9_forced_10 (by decide) (fun _ => ?_) (fun c => absurd (by decide) c)
    refine lv_bipush (v := (-2)) hx hb dX9_forced_29 (by decide) ?_
    have hP9 := hP.sub (ws' := []) [] rfl
    have hD9 := hD.sub (ws' := []) [] (by decide) rfl
    exact z_iret () hx hb hr hlocks hK hP9 hD9 hS hAe hQ rfl (Or.inl (⟨rfl, f4⟩)) dX9_forced_31
  · refine lv_if_eq (tgt := 29) hx hb dX9_forced_10 (by decide) (fun _ => ?_) (fun c => absurd (by decide) c)
    refine lv_bipush (v := (-2)) hx hb dX9_forced_29 (by decide) ?_
    have hP9 := hP.sub (ws' := []) [] rfl
    have hD9 := hD.sub (ws' := []) [] (by decide) rfl
    exact z_iret () hx hb hr hlocks hK hP9 hD9 hS hAe hQ rfl (Or.inr ⟨rfl, f5⟩) dX9_forced_31
set_option maxHeartbeats 4000000 in
set_option maxRecDepth 100000 in
theorem c_X9_old_165 (l : Launch) (dC : Nat → ClassId) (dI : Nat → Nat → Nat) (cB cI cJ cZ cP cQ : ClassId) (am : Nat → Nat) (sz : Nat) (p1 : Int32) (p2 : Int32) : Met l yX9_old wsX9_old ({ frames := 2, cells := 0, slots := 0, locals := 46 } : Room) (zPc [.ref (am 0), .int p1, .int p2] (dC, dI) (zT cB cI cJ cZ cP cQ) [(am 0, .inr (9, mf0 am)), (am 7, .inl (cI, 5, .inl (fun _ => 0)))] sz [] []) (va_Qi (fun r _ => (fun r => (r = (-2) ∧ p1.toInt < 0) ∨ (r = (-2) ∧ 0 ≤ p1.toInt)) r) (zB (dC, dI) (zT cB cI cJ cZ cP cQ) (fun _ : Unit => []) [(am 0, .inr (9, mf0 am)), (am 7, .inl (cI, 5, .inl (fun _ => 0)))] sz) (va_A [(am 0, .inr (9, mf0 am)), (am 7, .inl (cI, 5, .inl (fun _ => 0)))] sz)) 0 0 (va_A [(am 0, .inr (9, mf0 am)), (am 7, .inl (cI, 5, .inl (fun _ => 0)))] sz) := by
  refine z_enter (cc := cX9_old) (maxL := 3) (ret := (some .int)) (by decide) rfl (Nat.le_of_ble_eq_true rfl) ?_
  intro p e s m below meth c A ls Q H locs hx hb hr hml hown hts hlocks hin hK hP hD hA hX hS hAe hQ hl
  have hown : s.vm.findClass RX9 = some m.cls := hown
  have hi9 : ∀ w ∈ wsX90, w ∈ wsX9_old := fun w h => List.mem_cons_of_mem _ (List.mem_append_right _ h)
  have hk0 := hts (.fieldLink RX9 125 "MonthPushModel" "thrown" "I") (by decide +kernel)
  have hl : lv_has ls 3 [(0, .ref (am 0)), (1, .int p1), (2, .int p2)] := hl
  refine lv_aload_n hx hb dX9_old_0 rfl (lv_at hl 0 rfl) ?_
  refine lv_iconst (v := 0) hx hb dX9_old_1 (by decide) ?_
  refine z_put0 (D := (dC, dI)) (ci := 9) (v := .int 0) (ty := .int) (C := RX9) (T := TX9) (N := 60) hx hb hts hi9 tyX9 tyX9_ok nmX9 hown hK hP hD hS 0 rfl rfl 0 (by decide) hk0 (fun _ h9 => h9) rfl (by decide +kernel) rfl rfl rfl dX9_old_2 (fun H locs hP hS => ?_)
  refine lv_aload_n hx hb dX9_old_5 rfl (lv_at hl 0 rfl) ?_
  refine lv_iload_n hx hb dX9_old_6 rfl (lv_at hl 1 rfl) ?_
  refine z_fini (w' := fun (u1 : Unit) => [(am 0, .inr (9, mf0 am)), (am 7, .inl (cI, 5, .inl (fun _ => 0)))]) (va_runV (As := [.int p1]) (rest := []) ⟨hx, hb, hml, hown, hts⟩ (c_X9_isState_164 l dC dI cB cI cJ cZ cP cQ am H.size p1) (cwV 1 hts gX9_old_X9_isState rfl rfl rfl (by decide +kernel) ⟨Nat.le_of_ble_eq_true rfl, Nat.le_of_ble_eq_true rfl⟩) (z_pV (ci := 9) hK hP hD zX_nil [0, 1] (by decide) rfl rfl 0 rfl) rfl rfl hl.1 rfl (lv_room (Nat.le_of_ble_eq_true rfl)) dX9_old_7 ⟨Nat.le_of_ble_eq_true rfl, Nat.le_of_ble_eq_true rfl⟩) hP hD hS hA [0, 1] [] [0, 1] rfl rfl (by decide) (by decide) (fun _ => rfl) (by decide) (fun r2 u1 H locs hp3 hP hD hS => ?_)
  have hP : va_P (dC, dI) vwCl [(am 0, .inr (9, mf0 am)), (am 7, .inl (cI, 5, .inl (fun _ => 0)))] H := hP
  have hD : va_D A [(am 0, .inr (9, mf0 am)), (am 7, .inl (cI, 5, .inl (fun _ => 0)))] := hD
  refine W.widen (k := 0) (n := 0) (by decide) (by decide) ?_
  rcases hp3 with ⟨rfl, f4⟩ | ⟨rfl, f5⟩
  · refine lv_if_eq (tgt := 29) hx hb dX9_old_10 (by decide) (fun _ => ?_) (fun c => absurd (by decide) c)
    refine lv_bipush (v := (-2)) hx hb dX9_old_29 (by decide) ?_
    have hP9 := hP.sub (ws' := []) [] rfl
    have hD9 := hD.sub (ws' := []) [] (by decide) rfl
    exact z_iret () hx hb hr hlocks hK hP9 hD9 hS hAe hQ rfl (Or.inl (⟨rfl, f4⟩)) dX9_old_31
  · refine lv_if_eq (tgt := 29) hx hb dX9_old_10 (by decide) (fun _ => ?_) (fun c => absurd (by decide) c)
    refine lv_bipush (v := (-2)) hx hb dX9_old_29 (by decide) ?_
    have hP9 := hP.sub (ws' := []) [] rfl
    have hD9 := hD.sub (ws' := []) [] (by decide) rfl
    exact z_iret () hx hb hr hlocks hK hP9 hD9 hS hAe hQ rfl (Or.inr ⟨rfl, f5⟩) dX9_old_31
set_option maxHeartbeats 4000000 in
set_option maxRecDepth 100000 in
theorem c_X9_in_167 (l : Launch) (dC : Nat → ClassId) (dI : Nat → Nat → Nat) (cB cI cJ cZ cP cQ : ClassId) (sz : Nat) (p0 : Int32) : Met l yX9_in wsX9_in ({ frames := 0, cells := 0, slots := 0, locals := 0 } : Room) (zPc [.long p0.toInt64, .long 0, .long 300] (dC, dI) (zT cB cI cJ cZ cP cQ) [] sz [] []) (va_Qi (fun r _ => (fun r => (r = 0 ∧ p0.toInt < 0) ∨ (r = 0 ∧ 0 ≤ p0.toInt ∧ 300 < p0.toInt) ∨ (r = 1 ∧ 0 ≤ p0.toInt ∧ p0.toInt ≤ 300)) r) (zB (dC, dI) (zT cB cI cJ cZ cP cQ) (fun _ : Unit => []) [] sz) (va_A [] sz)) 0 0 (va_A [] sz) := by
  refine z_enter (cc := cX9_in) (maxL := 6) (ret := (some .boolean)) (by decide) rfl (Nat.le_of_ble_eq_true rfl) ?_
  intro p e s m below meth c A ls Q H locs hx hb hr hml hown hts hlocks hin hK hP hD hA hX hS hAe hQ hl
  have hown : s.vm.findClass RX9 = some m.cls := hown
  have hl : lv_has ls 6 [(0, .long p0.toInt64), (2, .long 0), (4, .long 300)] := hl
  refine lv_lload_n hx hb dX9_in_0 rfl (lv_at hl 0 rfl) ?_
  refine lv_lload_n hx hb dX9_in_1 rfl (lv_at hl 1 rfl) ?_
  refine W.lcmp hx hb dX9_in_2 ?_
  refine lv_if_lt (tgt := 17) hx hb dX9_in_3 (by decide) (fun c_1 => ?_) (fun c_1 => ?_)
  · have f2 : p0.toInt < 0 := z_llt (z_i2l p0) (by decide) c_1
    refine lv_iconst (v := 0) hx hb dX9_in_17 (by decide) ?_
    exact z_zret () hx hb hr hlocks hK hP hD hS hAe hQ rfl (Or.inl (⟨rfl, f2⟩)) (by decide) dX9_in_18
  · have f2 : 0 ≤ p0.toInt := z_lnlt (z_i2l p0) (by decide) c_1
    refine lv_lload_n hx hb dX9_in_6 rfl (lv_at hl 0 rfl) ?_
    refine lv_lload hx hb dX9_in_7 (lv_at hl 2 rfl) ?_
    refine W.lcmp hx hb dX9_in_9 ?_
    refine lv_if_gt (tgt := 17) hx hb dX9_in_10 (by decide) (fun c_3 => ?_) (fun c_3 => ?_)
    · have f4 : 300 < p0.toInt := z_lgt (z_i2l p0) (by decide) c_3
      refine lv_iconst (v := 0) hx hb dX9_in_17 (by decide) ?_
      exact z_zret () hx hb hr hlocks hK hP hD hS hAe hQ rfl (Or.inr (Or.inl ⟨rfl, f2, f4⟩)) (by decide) dX9_in_18
    · have f4 : p0.toInt ≤ 300 := z_lngt (z_i2l p0) (by decide) c_3
      refine lv_iconst (v := 1) hx hb dX9_in_13 (by decide) ?_
      refine lv_goto (tgt := 18) hx hb dX9_in_14 (by decide) ?_
      exact z_zret () hx hb hr hlocks hK hP hD hS hAe hQ rfl (Or.inr (Or.inr ⟨rfl, f2, f4⟩)) (by decide) dX9_in_18
set_option maxHeartbeats 4000000 in
set_option maxRecDepth 100000 in
theorem c_X9_in_168 (l : Launch) (dC : Nat → ClassId) (dI : Nat → Nat → Nat) (cB cI cJ cZ cP cQ : ClassId) (sz : Nat) (p0 : Int32) : Met l yX9_in wsX9_in ({ frames := 0, cells := 0, slots := 0, locals := 0 } : Room) (zPc [.long p0.toInt64, .long 0, .long 999] (dC, dI) (zT cB cI cJ cZ cP cQ) [] sz [] []) (va_Qi (fun r _ => (fun r => (r = 0 ∧ p0.toInt < 0) ∨ (r = 0 ∧ 0 ≤ p0.toInt ∧ 999 < p0.toInt) ∨ (r = 1 ∧ 0 ≤ p0.toInt ∧ p0.toInt ≤ 999)) r) (zB (dC, dI) (zT cB cI cJ cZ cP cQ) (fun _ : Unit => []) [] sz) (va_A [] sz)) 0 0 (va_A [] sz) := by
  refine z_enter (cc := cX9_in) (maxL := 6) (ret := (some .boolean)) (by decide) rfl (Nat.le_of_ble_eq_true rfl) ?_
  intro p e s m below meth c A ls Q H locs hx hb hr hml hown hts hlocks hin hK hP hD hA hX hS hAe hQ hl
  have hown : s.vm.findClass RX9 = some m.cls := hown
  have hl : lv_has ls 6 [(0, .long p0.toInt64), (2, .long 0), (4, .long 999)] := hl
  refine lv_lload_n hx hb dX9_in_0 rfl (lv_at hl 0 rfl) ?_
  refine lv_lload_n hx hb dX9_in_1 rfl (lv_at hl 1 rfl) ?_
  refine W.lcmp hx hb dX9_in_2 ?_
  refine lv_if_lt (tgt := 17) hx hb dX9_in_3 (by decide) (fun c_1 => ?_) (fun c_1 => ?_)
  · have f2 : p0.toInt < 0 := z_llt (z_i2l p0) (by decide) c_1
    refine lv_iconst (v := 0) hx hb dX9_in_17 (by decide) ?_
    exact z_zret () hx hb hr hlocks hK hP hD hS hAe hQ rfl (Or.inl (⟨rfl, f2⟩)) (by decide) dX9_in_18
  · have f2 : 0 ≤ p0.toInt := z_lnlt (z_i2l p0) (by decide) c_1
    refine lv_lload_n hx hb dX9_in_6 rfl (lv_at hl 0 rfl) ?_
    refine lv_lload hx hb dX9_in_7 (lv_at hl 2 rfl) ?_
    refine W.lcmp hx hb dX9_in_9 ?_
    refine lv_if_gt (tgt := 17) hx hb dX9_in_10 (by decide) (fun c_3 => ?_) (fun c_3 => ?_)
    · have f4 : 999 < p0.toInt := z_lgt (z_i2l p0) (by decide) c_3
      refine lv_iconst (v := 0) hx hb dX9_in_17 (by decide) ?_
      exact z_zret () hx hb hr hlocks hK hP hD hS hAe hQ rfl (Or.inr (Or.inl ⟨rfl, f2, f4⟩)) (by decide) dX9_in_18
    · have f4 : p0.toInt ≤ 999 := z_lngt (z_i2l p0) (by decide) c_3
      refine lv_iconst (v := 1) hx hb dX9_in_13 (by decide) ?_
      refine lv_goto (tgt := 18) hx hb dX9_in_14 (by decide) ?_
      exact z_zret () hx hb hr hlocks hK hP hD hS hAe hQ rfl (Or.inr (Or.inr ⟨rfl, f2, f4⟩)) (by decide) dX9_in_18
set_option maxHeartbeats 4000000 in
set_option maxRecDepth 100000 in
theorem c_X9_in_170 (l : Launch) (dC : Nat → ClassId) (dI : Nat → Nat → Nat) (cB cI cJ cZ cP cQ : ClassId) (sz : Nat) (p0 : Int32) : Met l yX9_in wsX9_in ({ frames := 0, cells := 0, slots := 0, locals := 0 } : Room) (zPc [.long p0.toInt64, .long 1, .long 12] (dC, dI) (zT cB cI cJ cZ cP cQ) [] sz [] []) (va_Qi (fun r _ => (fun r => (r = 0 ∧ p0.toInt < 1) ∨ (r = 0 ∧ 1 ≤ p0.toInt ∧ 12 < p0.toInt) ∨ (r = 1 ∧ 1 ≤ p0.toInt ∧ p0.toInt ≤ 12)) r) (zB (dC, dI) (zT cB cI cJ cZ cP cQ) (fun _ : Unit => []) [] sz) (va_A [] sz)) 0 0 (va_A [] sz) := by
  refine z_enter (cc := cX9_in) (maxL := 6) (ret := (some .boolean)) (by decide) rfl (Nat.le_of_ble_eq_true rfl) ?_
  intro p e s m below meth c A ls Q H locs hx hb hr hml hown hts hlocks hin hK hP hD hA hX hS hAe hQ hl
  have hown : s.vm.findClass RX9 = some m.cls := hown
  have hl : lv_has ls 6 [(0, .long p0.toInt64), (2, .long 1), (4, .long 12)] := hl
  refine lv_lload_n hx hb dX9_in_0 rfl (lv_at hl 0 rfl) ?_
  refine lv_lload_n hx hb dX9_in_1 rfl (lv_at hl 1 rfl) ?_
  refine W.lcmp hx hb dX9_in_2 ?_
  refine lv_if_lt (tgt := 17) hx hb dX9_in_3 (by decide) (fun c_1 => ?_) (fun c_1 => ?_)
  · have f2 : p0.toInt < 1 := z_llt (z_i2l p0) (by decide) c_1
    refine lv_iconst (v := 0) hx hb dX9_in_17 (by decide) ?_
    exact z_zret () hx hb hr hlocks hK hP hD hS hAe hQ rfl (Or.inl (⟨rfl, f2⟩)) (by decide) dX9_in_18
  · have f2 : 1 ≤ p0.toInt := z_lnlt (z_i2l p0) (by decide) c_1
    refine lv_lload_n hx hb dX9_in_6 rfl (lv_at hl 0 rfl) ?_
    refine lv_lload hx hb dX9_in_7 (lv_at hl 2 rfl) ?_
    refine W.lcmp hx hb dX9_in_9 ?_
    refine lv_if_gt (tgt := 17) hx hb dX9_in_10 (by decide) (fun c_3 => ?_) (fun c_3 => ?_)
    · have f4 : 12 < p0.toInt := z_lgt (z_i2l p0) (by decide) c_3
      refine lv_iconst (v := 0) hx hb dX9_in_17 (by decide) ?_
      exact z_zret () hx hb hr hlocks hK hP hD hS hAe hQ rfl (Or.inr (Or.inl ⟨rfl, f2, f4⟩)) (by decide) dX9_in_18
    · have f4 : p0.toInt ≤ 12 := z_lngt (z_i2l p0) (by decide) c_3
      refine lv_iconst (v := 1) hx hb dX9_in_13 (by decide) ?_
      refine lv_goto (tgt := 18) hx hb dX9_in_14 (by decide) ?_
      exact z_zret () hx hb hr hlocks hK hP hD hS hAe hQ rfl (Or.inr (Or.inr ⟨rfl, f2, f4⟩)) (by decide) dX9_in_18
set_option maxHeartbeats 4000000 in
set_option maxRecDepth 100000 in
theorem c_X9_isMonth_170 (l : Launch) (dC : Nat → ClassId) (dI : Nat → Nat → Nat) (cB cI cJ cZ cP cQ : ClassId) (sz : Nat) (p0 : Int32) : Met l yX9_isMonth wsX9_isMonth ({ frames := 1, cells := 0, slots := 0, locals := 25 } : Room) (zPc [.int p0] (dC, dI) (zT cB cI cJ cZ cP cQ) [] sz [] []) (va_Qi (fun r _ => (fun r => (r = 0 ∧ p0.toInt < 1) ∨ (r = 0 ∧ 1 ≤ p0.toInt ∧ 12 < p0.toInt) ∨ (r = 1 ∧ 1 ≤ p0.toInt ∧ p0.toInt ≤ 12)) r) (zB (dC, dI) (zT cB cI cJ cZ cP cQ) (fun _ : Unit => []) [] sz) (va_A [] sz)) 0 0 (va_A [] sz) := by
  refine z_enter (cc := cX9_isMonth) (maxL := 1) (ret := (some .boolean)) (by decide) rfl (Nat.le_of_ble_eq_true rfl) ?_
  intro p e s m below meth c A ls Q H locs hx hb hr hml hown hts hlocks hin hK hP hD hA hX hS hAe hQ hl
  have hown : s.vm.findClass RX9 = some m.cls := hown
  have hk0 := hts (.constantLong RX9 222 12) (by decide +kernel)
  have hl : lv_has ls 1 [(0, .int p0)] := hl
  refine lv_iload_n hx hb dX9_isMonth_0 rfl (lv_at hl 0 rfl) ?_
  refine lv_i2l hx hb dX9_isMonth_1 rfl ?_
  refine lv_lconst (v := 1) hx hb dX9_isMonth_2 (by decide) ?_
  refine lv_ldc2 hx hb hown hk0 dX9_isMonth_3 ?_
  refine z_fini (w' := fun (u1 : Unit) => []) (va_runS (As := [.long p0.toInt64, .long 1, .long 12]) (rest := []) ⟨hx, hb, hml, hown, hts⟩ (c_X9_in_170 l dC dI cB cI cJ cZ cP cQ H.size p0) (va_cwS 3 hts gX9_isMonth_X9_in rfl rfl rfl (by decide +kernel) ⟨Nat.le_of_ble_eq_true rfl, Nat.le_of_ble_eq_true rfl⟩) (z_pS hK hP hD zX_nil [] (by decide) rfl) rfl rfl hl.1 rfl (lv_room (Nat.le_of_ble_eq_true rfl)) dX9_isMonth_6 ⟨Nat.le_of_ble_eq_true rfl, Nat.le_of_ble_eq_true rfl⟩) hP hD hS hA [] [] [] rfl rfl (by decide) (by decide) (fun _ => rfl) (by decide) (fun r2 u1 H locs hp3 hP hD hS => ?_)
  have hP : va_P (dC, dI) vwCl [] H := hP
  have hD : va_D A [] := hD
  refine W.widen (k := 0) (n := 0) (by decide) (by decide) ?_
  rcases hp3 with ⟨rfl, f4⟩ | ⟨rfl, f5, f6⟩ | ⟨rfl, f7, f8⟩
  · exact z_zret () hx hb hr hlocks hK hP hD hS hAe hQ rfl (Or.inl (⟨rfl, f4⟩)) (by decide) dX9_isMonth_9
  · exact z_zret () hx hb hr hlocks hK hP hD hS hAe hQ rfl (Or.inr (Or.inl ⟨rfl, f5, f6⟩)) (by decide) dX9_isMonth_9
  · exact z_zret () hx hb hr hlocks hK hP hD hS hAe hQ rfl (Or.inr (Or.inr ⟨rfl, f7, f8⟩)) (by decide) dX9_isMonth_9
set_option maxHeartbeats 4000000 in
set_option maxRecDepth 100000 in
theorem c_X9_wage_170 (l : Launch) (dC : Nat → ClassId) (dI : Nat → Nat → Nat) (cB cI cJ cZ cP cQ : ClassId) (am : Nat → Nat) (sz : Nat) (p1 : Int32) (p2 : Int32) (p3 : Int32) (p4 : Int32) : Met l yX9_wage wsX9_wage ({ frames := 2, cells := 0, slots := 0, locals := 46 } : Room) (zPc [.ref (am 0), .int p1, .int p2, .int p3, .int p4] (dC, dI) (zT cB cI cJ cZ cP cQ) [(am 0, .inr (9, mf0 am)), (am 7, .inl (cI, 5, .inl (fun _ => 0)))] sz [] []) (va_Qi (fun r _ => (fun r => (r = (-2) ∧ p1.toInt < 0) ∨ (r = (-2) ∧ 0 ≤ p1.toInt ∧ 300 < p1.toInt) ∨ (r = (-2) ∧ 0 ≤ p1.toInt ∧ p1.toInt ≤ 300 ∧ p2.toInt < 0) ∨ (r = (-2) ∧ 0 ≤ p1.toInt ∧ p1.toInt ≤ 300 ∧ 0 ≤ p2.toInt ∧ 999 < p2.toInt) ∨ (r = (-2) ∧ 0 ≤ p1.toInt ∧ p1.toInt ≤ 300 ∧ 0 ≤ p2.toInt ∧ p2.toInt ≤ 999 ∧ p3.toInt < 1) ∨ (r = (-2) ∧ 0 ≤ p1.toInt ∧ p1.toInt ≤ 300 ∧ 0 ≤ p2.toInt ∧ p2.toInt ≤ 999 ∧ 1 ≤ p3.toInt ∧ 12 < p3.toInt) ∨ (r = (-2) ∧ 0 ≤ p1.toInt ∧ p1.toInt ≤ 300 ∧ 0 ≤ p2.toInt ∧ p2.toInt ≤ 999 ∧ 1 ≤ p3.toInt ∧ p3.toInt ≤ 12 ∧ p4.toInt < 0) ∨ (r = (-2) ∧ 0 ≤ p1.toInt ∧ p1.toInt ≤ 300 ∧ 0 ≤ p2.toInt ∧ p2.toInt ≤ 999 ∧ 1 ≤ p3.toInt ∧ p3.toInt ≤ 12 ∧ 0 ≤ p4.toInt)) r) (zB (dC, dI) (zT cB cI cJ cZ cP cQ) (fun _ : Unit => []) [(am 0, .inr (9, mf0 am)), (am 7, .inl (cI, 5, .inl (fun _ => 0)))] sz) (va_A [(am 0, .inr (9, mf0 am)), (am 7, .inl (cI, 5, .inl (fun _ => 0)))] sz)) 0 0 (va_A [(am 0, .inr (9, mf0 am)), (am 7, .inl (cI, 5, .inl (fun _ => 0)))] sz) := by
  refine z_enter (cc := cX9_wage) (maxL := 5) (ret := (some .int)) (by decide) rfl (Nat.le_of_ble_eq_true rfl) ?_
  intro p e s m below meth c A ls Q H locs hx hb hr hml hown hts hlocks hin hK hP hD hA hX hS hAe hQ hl
  have hown : s.vm.findClass RX9 = some m.cls := hown
  have hi9 : ∀ w ∈ wsX90, w ∈ wsX9_wage := fun w h => List.mem_cons_of_mem _ (List.mem_append_right _ h)
  have hk0 := hts (.fieldLink RX9 125 "MonthPushModel" "thrown" "I") (by decide +kernel)
  have hk1 := hts (.constantLong RX9 315 300) (by decide +kernel)
  have hk2 := hts (.constantLong RX9 317 999) (by decide +kernel)
  have hl : lv_has ls 5 [(0, .ref (am 0)), (1, .int p1), (2, .int p2), (3, .int p3), (4, .int p4)] := hl
  refine lv_aload_n hx hb dX9_wage_0 rfl (lv_at hl 0 rfl) ?_
  refine lv_iconst (v := 0) hx hb dX9_wage_1 (by decide) ?_
  refine z_put0 (D := (dC, dI)) (ci := 9) (v := .int 0) (ty := .int) (C := RX9) (T := TX9) (N := 60) hx hb hts hi9 tyX9 tyX9_ok nmX9 hown hK hP hD hS 0 rfl rfl 0 (by decide) hk0 (fun _ h9 => h9) rfl (by decide +kernel) rfl rfl rfl dX9_wage_2 (fun H locs hP hS => ?_)
  refine lv_iload_n hx hb dX9_wage_5 rfl (lv_at hl 1 rfl) ?_
  refine lv_i2l hx hb dX9_wage_6 rfl ?_
  refine lv_lconst (v := 0) hx hb dX9_wage_7 (by decide) ?_
  refine lv_ldc2 hx hb hown hk1 dX9_wage_8 ?_
  refine z_fini (w' := fun (u1 : Unit) => [(am 0, .inr (9, mf0 am)), (am 7, .inl (cI, 5, .inl (fun _ => 0)))]) (va_runS (As := [.long p1.toInt64, .long 0, .long 300]) (rest := []) ⟨hx, hb, hml, hown, hts⟩ (c_X9_in_167 l dC dI cB cI cJ cZ cP cQ H.size p1) (va_cwS 3 hts gX9_wage_X9_in rfl rfl rfl (by decide +kernel) ⟨Nat.le_of_ble_eq_true rfl, Nat.le_of_ble_eq_true rfl⟩) (z_pS hK hP hD zX_nil [] (by decide) rfl) rfl rfl hl.1 rfl (lv_room (Nat.le_of_ble_eq_true rfl)) dX9_wage_11 ⟨Nat.le_of_ble_eq_true rfl, Nat.le_of_ble_eq_true rfl⟩) hP hD hS hA [] [0, 1] [0, 1] rfl rfl (by decide) (by decide) (fun _ => rfl) (by decide) (fun r2 u1 H locs hp3 hP hD hS => ?_)
  have hP : va_P (dC, dI) vwCl [(am 0, .inr (9, mf0 am)), (am 7, .inl (cI, 5, .inl (fun _ => 0)))] H := hP
  have hD : va_D A [(am 0, .inr (9, mf0 am)), (am 7, .inl (cI, 5, .inl (fun _ => 0)))] := hD
  refine W.widen (k := 0) (n := 0) (by decide) (by decide) ?_
  rcases hp3 with ⟨rfl, f4⟩ | ⟨rfl, f5, f6⟩ | ⟨rfl, f7, f8⟩
  · refine lv_if_eq (tgt := 45) hx hb dX9_wage_14 (by decide) (fun _ => ?_) (fun c => absurd (by decide) c)
    refine lv_bipush (v := (-2)) hx hb dX9_wage_45 (by decide) ?_
    have hP9 := hP.sub (ws' := []) [] rfl
    have hD9 := hD.sub (ws' := []) [] (by decide) rfl
    exact z_iret () hx hb hr hlocks hK hP9 hD9 hS hAe hQ rfl (Or.inl (⟨rfl, f4⟩)) dX9_wage_47
  · refine lv_if_eq (tgt := 45) hx hb dX9_wage_14 (by decide) (fun _ => ?_) (fun c => absurd (by decide) c)
    refine lv_bipush (v := (-2)) hx hb dX9_wage_45 (by decide) ?_
    have hP9 := hP.sub (ws' := []) [] rfl
    have hD9 := hD.sub (ws' := []) [] (by decide) rfl
    exact z_iret () hx hb hr hlocks hK hP9 hD9 hS hAe hQ rfl (Or.inr (Or.inl ⟨rfl, f5, f6⟩)) dX9_wage_47
  · refine lv_if_eq (tgt := 45) hx hb dX9_wage_14 (by decide) (fun c => absurd c (by decide)) (fun _ => ?_)
    refine lv_iload_n hx hb dX9_wage_17 rfl (lv_at hl 2 rfl) ?_
    refine lv_i2l hx hb dX9_wage_18 rfl ?_
    refine lv_lconst (v := 0) hx hb dX9_wage_19 (by decide) ?_
    refine lv_ldc2 hx hb hown hk2 dX9_wage_20 ?_
    refine z_fini (w' := fun (u9 : Unit) => [(am 0, .inr (9, mf0 am)), (am 7, .inl (cI, 5, .inl (fun _ => 0)))]) (va_runS (As := [.long p2.toInt64, .long 0, .long 999]) (rest := []) ⟨hx, hb, hml, hown, hts⟩ (c_X9_in_168 l dC dI cB cI cJ cZ cP cQ H.size p2) (va_cwS 3 hts gX9_wage_X9_in rfl rfl rfl (by decide +kernel) ⟨Nat.le_of_ble_eq_true rfl, Nat.le_of_ble_eq_true rfl⟩) (z_pS hK hP hD zX_nil [] (by decide) rfl) rfl rfl hl.1 rfl (lv_room (Nat.le_of_ble_eq_true rfl)) dX9_wage_23 ⟨Nat.le_of_ble_eq_true rfl, Nat.le_of_ble_eq_true rfl⟩) hP hD hS hA [] [0, 1] [0, 1] rfl rfl (by decide) (by decide) (fun _ => rfl) (by decide) (fun r10 u9 H locs hp11 hP hD hS => ?_)
    have hP : va_P (dC, dI) vwCl [(am 0, .inr (9, mf0 am)), (am 7, .inl (cI, 5, .inl (fun _ => 0)))] H := hP
    have hD : va_D A [(am 0, .inr (9, mf0 am)), (am 7, .inl (cI, 5, .inl (fun _ => 0)))] := hD
    refine W.widen (k := 0) (n := 0) (by decide) (by decide) ?_
    rcases hp11 with ⟨rfl, f12⟩ | ⟨rfl, f13, f14⟩ | ⟨rfl, f15, f16⟩
    · refine lv_if_eq (tgt := 45) hx hb dX9_wage_26 (by decide) (fun _ => ?_) (fun c => absurd (by decide) c)
      refine lv_bipush (v := (-2)) hx hb dX9_wage_45 (by decide) ?_
      have hP9 := hP.sub (ws' := []) [] rfl
      have hD9 := hD.sub (ws' := []) [] (by decide) rfl
      exact z_iret () hx hb hr hlocks hK hP9 hD9 hS hAe hQ rfl (Or.inr (Or.inr (Or.inl ⟨rfl, f7, f8, f12⟩))) dX9_wage_47
    · refine lv_if_eq (tgt := 45) hx hb dX9_wage_26 (by decide) (fun _ => ?_) (fun c => absurd (by decide) c)
      refine lv_bipush (v := (-2)) hx hb dX9_wage_45 (by decide) ?_
      have hP9 := hP.sub (ws' := []) [] rfl
      have hD9 := hD.sub (ws' := []) [] (by decide) rfl
      exact z_iret () hx hb hr hlocks hK hP9 hD9 hS hAe hQ rfl (Or.inr (Or.inr (Or.inr (Or.inl ⟨rfl, f7, f8, f13, f14⟩)))) dX9_wage_47
    · refine lv_if_eq (tgt := 45) hx hb dX9_wage_26 (by decide) (fun c => absurd c (by decide)) (fun _ => ?_)
      refine lv_iload_n hx hb dX9_wage_29 rfl (lv_at hl 3 rfl) ?_
      refine z_fini (w' := fun (u17 : Unit) => [(am 0, .inr (9, mf0 am)), (am 7, .inl (cI, 5, .inl (fun _ => 0)))]) (va_runS (As := [.int p3]) (rest := []) ⟨hx, hb, hml, hown, hts⟩ (c_X9_isMonth_170 l dC dI cB cI cJ cZ cP cQ H.size p3) (va_cwS 1 hts gX9_wage_X9_isMonth rfl rfl rfl (by decide +kernel) ⟨Nat.le_of_ble_eq_true rfl, Nat.le_of_ble_eq_true rfl⟩) (z_pS hK hP hD zX_nil [] (by decide) rfl) rfl rfl hl.1 rfl (lv_room (Nat.le_of_ble_eq_true rfl)) dX9_wage_30 ⟨Nat.le_of_ble_eq_true rfl, Nat.le_of_ble_eq_true rfl⟩) hP hD hS hA [] [0, 1] [0, 1] rfl rfl (by decide) (by decide) (fun _ => rfl) (by decide) (fun r18 u17 H locs hp19 hP hD hS => ?_)
      have hP : va_P (dC, dI) vwCl [(am 0, .inr (9, mf0 am)), (am 7, .inl (cI, 5, .inl (fun _ => 0)))] H := hP
      have hD : va_D A [(am 0, .inr (9, mf0 am)), (am 7, .inl (cI, 5, .inl (fun _ => 0)))] := hD
      refine W.widen (k := 0) (n := 0) (by decide) (by decide) ?_
      rcases hp19 with ⟨rfl, f20⟩ | ⟨rfl, f21, f22⟩ | ⟨rfl, f23, f24⟩
      · refine lv_if_eq (tgt := 45) hx hb dX9_wage_33 (by decide) (fun _ => ?_) (fun c => absurd (by decide) c)
        refine lv_bipush (v := (-2)) hx hb dX9_wage_45 (by decide) ?_
        have hP9 := hP.sub (ws' := []) [] rfl
        have hD9 := hD.sub (ws' := []) [] (by decide) rfl
        exact z_iret () hx hb hr hlocks hK hP9 hD9 hS hAe hQ rfl (Or.inr (Or.inr (Or.inr (Or.inr (Or.inl ⟨rfl, f7, f8, f15, f16, f20⟩))))) dX9_wage_47
      · refine lv_if_eq (tgt := 45) hx hb dX9_wage_33 (by decide) (fun _ => ?_) (fun c => absurd (by decide) c)
        refine lv_bipush (v := (-2)) hx hb dX9_wage_45 (by decide) ?_
        have hP9 := hP.sub (ws' := []) [] rfl
        have hD9 := hD.sub (ws' := []) [] (by decide) rfl
        exact z_iret () hx hb hr hlocks hK hP9 hD9 hS hAe hQ rfl (Or.inr (Or.inr (Or.inr (Or.inr (Or.inr (Or.inl ⟨rfl, f7, f8, f15, f16, f21, f22⟩)))))) dX9_wage_47
      · refine lv_if_eq (tgt := 45) hx hb dX9_wage_33 (by decide) (fun c => absurd c (by decide)) (fun _ => ?_)
        refine lv_aload_n hx hb dX9_wage_36 rfl (lv_at hl 0 rfl) ?_
        refine lv_iload hx hb dX9_wage_37 (lv_at hl 4 rfl) ?_
        refine z_fini (w' := fun (u25 : Unit) => [(am 0, .inr (9, mf0 am)), (am 7, .inl (cI, 5, .inl (fun _ => 0)))]) (va_runV (As := [.int p4]) (rest := []) ⟨hx, hb, hml, hown, hts⟩ (c_X9_isState_164 l dC dI cB cI cJ cZ cP cQ am H.size p4) (cwV 1 hts gX9_wage_X9_isState rfl rfl rfl (by decide +kernel) ⟨Nat.le_of_ble_eq_true rfl, Nat.le_of_ble_eq_true rfl⟩) (z_pV (ci := 9) hK hP hD zX_nil [0, 1] (by decide) rfl rfl 0 rfl) rfl rfl hl.1 rfl (lv_room (Nat.le_of_ble_eq_true rfl)) dX9_wage_39 ⟨Nat.le_of_ble_eq_true rfl, Nat.le_of_ble_eq_true rfl⟩) hP hD hS hA [0, 1] [] [0, 1] rfl rfl (by decide) (by decide) (fun _ => rfl) (by decide) (fun r26 u25 H locs hp27 hP hD hS => ?_)
        have hP : va_P (dC, dI) vwCl [(am 0, .inr (9, mf0 am)), (am 7, .inl (cI, 5, .inl (fun _ => 0)))] H := hP
        have hD : va_D A [(am 0, .inr (9, mf0 am)), (am 7, .inl (cI, 5, .inl (fun _ => 0)))] := hD
        refine W.widen (k := 0) (n := 0) (by decide) (by decide) ?_
        rcases hp27 with ⟨rfl, f28⟩ | ⟨rfl, f29⟩
        · refine lv_if_ne (tgt := 48) hx hb dX9_wage_42 (by decide) (fun c => absurd (by decide) c) (fun _ => ?_)
          refine lv_bipush (v := (-2)) hx hb dX9_wage_45 (by decide) ?_
          have hP9 := hP.sub (ws' := []) [] rfl
          have hD9 := hD.sub (ws' := []) [] (by decide) rfl
          exact z_iret () hx hb hr hlocks hK hP9 hD9 hS hAe hQ rfl (Or.inr (Or.inr (Or.inr (Or.inr (Or.inr (Or.inr (Or.inl ⟨rfl, f7, f8, f15, f16, f23, f24, f28⟩))))))) dX9_wage_47
        · refine lv_if_ne (tgt := 48) hx hb dX9_wage_42 (by decide) (fun c => absurd (by decide) c) (fun _ => ?_)
          refine lv_bipush (v := (-2)) hx hb dX9_wage_45 (by decide) ?_
          have hP9 := hP.sub (ws' := []) [] rfl
          have hD9 := hD.sub (ws' := []) [] (by decide) rfl
          exact z_iret () hx hb hr hlocks hK hP9 hD9 hS hAe hQ rfl (Or.inr (Or.inr (Or.inr (Or.inr (Or.inr (Or.inr (Or.inr ⟨rfl, f7, f8, f15, f16, f23, f24, f29⟩))))))) dX9_wage_47
set_option maxHeartbeats 4000000 in
set_option maxRecDepth 100000 in
theorem c_X9_in_173 (l : Launch) (dC : Nat → ClassId) (dI : Nat → Nat → Nat) (cB cI cJ cZ cP cQ : ClassId) (sz : Nat) (p0 : Int32) : Met l yX9_in wsX9_in ({ frames := 0, cells := 0, slots := 0, locals := 0 } : Room) (zPc [.long p0.toInt64, .long 0, .long 2000000000] (dC, dI) (zT cB cI cJ cZ cP cQ) [] sz [] []) (va_Qi (fun r _ => (fun r => (r = 0 ∧ p0.toInt < 0) ∨ (r = 0 ∧ 0 ≤ p0.toInt ∧ 2000000000 < p0.toInt) ∨ (r = 1 ∧ 0 ≤ p0.toInt ∧ p0.toInt ≤ 2000000000)) r) (zB (dC, dI) (zT cB cI cJ cZ cP cQ) (fun _ : Unit => []) [] sz) (va_A [] sz)) 0 0 (va_A [] sz) := by
  refine z_enter (cc := cX9_in) (maxL := 6) (ret := (some .boolean)) (by decide) rfl (Nat.le_of_ble_eq_true rfl) ?_
  intro p e s m below meth c A ls Q H locs hx hb hr hml hown hts hlocks hin hK hP hD hA hX hS hAe hQ hl
  have hown : s.vm.findClass RX9 = some m.cls := hown
  have hl : lv_has ls 6 [(0, .long p0.toInt64), (2, .long 0), (4, .long 2000000000)] := hl
  refine lv_lload_n hx hb dX9_in_0 rfl (lv_at hl 0 rfl) ?_
  refine lv_lload_n hx hb dX9_in_1 rfl (lv_at hl 1 rfl) ?_
  refine W.lcmp hx hb dX9_in_2 ?_
  refine lv_if_lt (tgt := 17) hx hb dX9_in_3 (by decide) (fun c_1 => ?_) (fun c_1 => ?_)
  · have f2 : p0.toInt < 0 := z_llt (z_i2l p0) (by decide) c_1
    refine lv_iconst (v := 0) hx hb dX9_in_17 (by decide) ?_
    exact z_zret () hx hb hr hlocks hK hP hD hS hAe hQ rfl (Or.inl (⟨rfl, f2⟩)) (by decide) dX9_in_18
  · have f2 : 0 ≤ p0.toInt := z_lnlt (z_i2l p0) (by decide) c_1
    refine lv_lload_n hx hb dX9_in_6 rfl (lv_at hl 0 rfl) ?_
    refine lv_lload hx hb dX9_in_7 (lv_at hl 2 rfl) ?_
    refine W.lcmp hx hb dX9_in_9 ?_
    refine lv_if_gt (tgt := 17) hx hb dX9_in_10 (by decide) (fun c_3 => ?_) (fun c_3 => ?_)
    · have f4 : 2000000000 < p0.toInt := z_lgt (z_i2l p0) (by decide) c_3
      refine lv_iconst (v := 0) hx hb dX9_in_17 (by decide) ?_
      exact z_zret () hx hb hr hlocks hK hP hD hS hAe hQ rfl (Or.inr (Or.inl ⟨rfl, f2, f4⟩)) (by decide) dX9_in_18
    · have f4 : p0.toInt ≤ 2000000000 := z_lngt (z_i2l p0) (by decide) c_3
      refine lv_iconst (v := 1) hx hb dX9_in_13 (by decide) ?_
      refine lv_goto (tgt := 18) hx hb dX9_in_14 (by decide) ?_
      exact z_zret () hx hb hr hlocks hK hP hD hS hAe hQ rfl (Or.inr (Or.inr ⟨rfl, f2, f4⟩)) (by decide) dX9_in_18
set_option maxHeartbeats 4000000 in
set_option maxRecDepth 100000 in
theorem c_X9_isSeed_173 (l : Launch) (dC : Nat → ClassId) (dI : Nat → Nat → Nat) (cB cI cJ cZ cP cQ : ClassId) (sz : Nat) (p0 : Int32) : Met l yX9_isSeed wsX9_isSeed ({ frames := 1, cells := 0, slots := 0, locals := 25 } : Room) (zPc [.int p0] (dC, dI) (zT cB cI cJ cZ cP cQ) [] sz [] []) (va_Qi (fun r _ => (fun r => (r = 0 ∧ p0.toInt < 0) ∨ (r = 0 ∧ 0 ≤ p0.toInt ∧ 2000000000 < p0.toInt) ∨ (r = 1 ∧ 0 ≤ p0.toInt ∧ p0.toInt ≤ 2000000000)) r) (zB (dC, dI) (zT cB cI cJ cZ cP cQ) (fun _ : Unit => []) [] sz) (va_A [] sz)) 0 0 (va_A [] sz) := by
  refine z_enter (cc := cX9_isSeed) (maxL := 1) (ret := (some .boolean)) (by decide) rfl (Nat.le_of_ble_eq_true rfl) ?_
  intro p e s m below meth c A ls Q H locs hx hb hr hml hown hts hlocks hin hK hP hD hA hX hS hAe hQ hl
  have hown : s.vm.findClass RX9 = some m.cls := hown
  have hk0 := hts (.constantLong RX9 345 2000000000) (by decide +kernel)
  have hl : lv_has ls 1 [(0, .int p0)] := hl
  refine lv_iload_n hx hb dX9_isSeed_0 rfl (lv_at hl 0 rfl) ?_
  refine lv_i2l hx hb dX9_isSeed_1 rfl ?_
  refine lv_lconst (v := 0) hx hb dX9_isSeed_2 (by decide) ?_
  refine lv_ldc2 hx hb hown hk0 dX9_isSeed_3 ?_
  refine z_fini (w' := fun (u1 : Unit) => []) (va_runS (As := [.long p0.toInt64, .long 0, .long 2000000000]) (rest := []) ⟨hx, hb, hml, hown, hts⟩ (c_X9_in_173 l dC dI cB cI cJ cZ cP cQ H.size p0) (va_cwS 3 hts gX9_isSeed_X9_in rfl rfl rfl (by decide +kernel) ⟨Nat.le_of_ble_eq_true rfl, Nat.le_of_ble_eq_true rfl⟩) (z_pS hK hP hD zX_nil [] (by decide) rfl) rfl rfl hl.1 rfl (lv_room (Nat.le_of_ble_eq_true rfl)) dX9_isSeed_6 ⟨Nat.le_of_ble_eq_true rfl, Nat.le_of_ble_eq_true rfl⟩) hP hD hS hA [] [] [] rfl rfl (by decide) (by decide) (fun _ => rfl) (by decide) (fun r2 u1 H locs hp3 hP hD hS => ?_)
  have hP : va_P (dC, dI) vwCl [] H := hP
  have hD : va_D A [] := hD
  refine W.widen (k := 0) (n := 0) (by decide) (by decide) ?_
  rcases hp3 with ⟨rfl, f4⟩ | ⟨rfl, f5, f6⟩ | ⟨rfl, f7, f8⟩
  · exact z_zret () hx hb hr hlocks hK hP hD hS hAe hQ rfl (Or.inl (⟨rfl, f4⟩)) (by decide) dX9_isSeed_9
  · exact z_zret () hx hb hr hlocks hK hP hD hS hAe hQ rfl (Or.inr (Or.inl ⟨rfl, f5, f6⟩)) (by decide) dX9_isSeed_9
  · exact z_zret () hx hb hr hlocks hK hP hD hS hAe hQ rfl (Or.inr (Or.inr ⟨rfl, f7, f8⟩)) (by decide) dX9_isSeed_9
set_option maxHeartbeats 4000000 in
set_option maxRecDepth 100000 in
theorem c_X9_in_174 (l : Launch) (dC : Nat → ClassId) (dI : Nat → Nat → Nat) (cB cI cJ cZ cP cQ : ClassId) (sz : Nat) (p0 : Int32) : Met l yX9_in wsX9_in ({ frames := 0, cells := 0, slots := 0, locals := 0 } : Room) (zPc [.long p0.toInt64, .long 1, .long 200] (dC, dI) (zT cB cI cJ cZ cP cQ) [] sz [] []) (va_Qi (fun r _ => (fun r => (r = 0 ∧ p0.toInt < 1) ∨ (r = 0 ∧ 1 ≤ p0.toInt ∧ 200 < p0.toInt) ∨ (r = 1 ∧ 1 ≤ p0.toInt ∧ p0.toInt ≤ 200)) r) (zB (dC, dI) (zT cB cI cJ cZ cP cQ) (fun _ : Unit => []) [] sz) (va_A [] sz)) 0 0 (va_A [] sz) := by
  refine z_enter (cc := cX9_in) (maxL := 6) (ret := (some .boolean)) (by decide) rfl (Nat.le_of_ble_eq_true rfl) ?_
  intro p e s m below meth c A ls Q H locs hx hb hr hml hown hts hlocks hin hK hP hD hA hX hS hAe hQ hl
  have hown : s.vm.findClass RX9 = some m.cls := hown
  have hl : lv_has ls 6 [(0, .long p0.toInt64), (2, .long 1), (4, .long 200)] := hl
  refine lv_lload_n hx hb dX9_in_0 rfl (lv_at hl 0 rfl) ?_
  refine lv_lload_n hx hb dX9_in_1 rfl (lv_at hl 1 rfl) ?_
  refine W.lcmp hx hb dX9_in_2 ?_
  refine lv_if_lt (tgt := 17) hx hb dX9_in_3 (by decide) (fun c_1 => ?_) (fun c_1 => ?_)
  · have f2 : p0.toInt < 1 := z_llt (z_i2l p0) (by decide) c_1
    refine lv_iconst (v := 0) hx hb dX9_in_17 (by decide) ?_
    exact z_zret () hx hb hr hlocks hK hP hD hS hAe hQ rfl (Or.inl (⟨rfl, f2⟩)) (by decide) dX9_in_18
  · have f2 : 1 ≤ p0.toInt := z_lnlt (z_i2l p0) (by decide) c_1
    refine lv_lload_n hx hb dX9_in_6 rfl (lv_at hl 0 rfl) ?_
    refine lv_lload hx hb dX9_in_7 (lv_at hl 2 rfl) ?_
    refine W.lcmp hx hb dX9_in_9 ?_
    refine lv_if_gt (tgt := 17) hx hb dX9_in_10 (by decide) (fun c_3 => ?_) (fun c_3 => ?_)
    · have f4 : 200 < p0.toInt := z_lgt (z_i2l p0) (by decide) c_3
      refine lv_iconst (v := 0) hx hb dX9_in_17 (by decide) ?_
      exact z_zret () hx hb hr hlocks hK hP hD hS hAe hQ rfl (Or.inr (Or.inl ⟨rfl, f2, f4⟩)) (by decide) dX9_in_18
    · have f4 : p0.toInt ≤ 200 := z_lngt (z_i2l p0) (by decide) c_3
      refine lv_iconst (v := 1) hx hb dX9_in_13 (by decide) ?_
      refine lv_goto (tgt := 18) hx hb dX9_in_14 (by decide) ?_
      exact z_zret () hx hb hr hlocks hK hP hD hS hAe hQ rfl (Or.inr (Or.inr ⟨rfl, f2, f4⟩)) (by decide) dX9_in_18
set_option maxHeartbeats 4000000 in
set_option maxRecDepth 100000 in
theorem c_X9_draw_174 (l : Launch) (dC : Nat → ClassId) (dI : Nat → Nat → Nat) (cB cI cJ cZ cP cQ : ClassId) (am : Nat → Nat) (sz : Nat) (p1 : Int32) (p2 : Int32) : Met l yX9_draw wsX9_draw ({ frames := 2, cells := 0, slots := 0, locals := 45 } : Room) (zPc [.ref (am 0), .int p1, .int p2] (dC, dI) (zT cB cI cJ cZ cP cQ) [(am 0, .inr (9, mf0 am)), (am 7, .inl (cI, 5, .inl (fun _ => 0)))] sz [] []) (va_Qi (fun r _ => (fun r => (r = (-2) ∧ p1.toInt < 0) ∨ (r = (-2) ∧ 0 ≤ p1.toInt ∧ 2000000000 < p1.toInt) ∨ (r = (-2) ∧ 0 ≤ p1.toInt ∧ p1.toInt ≤ 2000000000 ∧ p2.toInt < 1) ∨ (r = (-2) ∧ 0 ≤ p1.toInt ∧ p1.toInt ≤ 2000000000 ∧ 1 ≤ p2.toInt ∧ 200 < p2.toInt) ∨ (r = (-6) ∧ 0 ≤ p1.toInt ∧ p1.toInt ≤ 2000000000 ∧ 1 ≤ p2.toInt ∧ p2.toInt ≤ 200)) r) (zB (dC, dI) (zT cB cI cJ cZ cP cQ) (fun _ : Unit => []) [(am 0, .inr (9, mf0 am)), (am 7, .inl (cI, 5, .inl (fun _ => 0)))] sz) (va_A [(am 0, .inr (9, mf0 am)), (am 7, .inl (cI, 5, .inl (fun _ => 0)))] sz)) 0 0 (va_A [(am 0, .inr (9, mf0 am)), (am 7, .inl (cI, 5, .inl (fun _ => 0)))] sz) := by
  refine z_enter (cc := cX9_draw) (maxL := 3) (ret := (some .int)) (by decide) rfl (Nat.le_of_ble_eq_true rfl) ?_
  intro p e s m below meth c A ls Q H locs hx hb hr hml hown hts hlocks hin hK hP hD hA hX hS hAe hQ hl
  have hown : s.vm.findClass RX9 = some m.cls := hown
  have hi9 : ∀ w ∈ wsX90, w ∈ wsX9_draw := fun w h => List.mem_cons_of_mem _ (List.mem_append_right _ h)
  have hk0 := hts (.fieldLink RX9 125 "MonthPushModel" "thrown" "I") (by decide +kernel)
  have hk1 := hts (.constantLong RX9 350 200) (by decide +kernel)
  have hk2 := hts (.fieldLink RX9 34 "MonthPushModel" "laws" "[I") (by decide +kernel)
  have hl : lv_has ls 3 [(0, .ref (am 0)), (1, .int p1), (2, .int p2)] := hl
  refine lv_aload_n hx hb dX9_draw_0 rfl (lv_at hl 0 rfl) ?_
  refine lv_iconst (v := 0) hx hb dX9_draw_1 (by decide) ?_
  refine z_put0 (D := (dC, dI)) (ci := 9) (v := .int 0) (ty := .int) (C := RX9) (T := TX9) (N := 60) hx hb hts hi9 tyX9 tyX9_ok nmX9 hown hK hP hD hS 0 rfl rfl 0 (by decide) hk0 (fun _ h9 => h9) rfl (by decide +kernel) rfl rfl rfl dX9_draw_2 (fun H locs hP hS => ?_)
  refine lv_iload_n hx hb dX9_draw_5 rfl (lv_at hl 1 rfl) ?_
  refine z_fini (w' := fun (u1 : Unit) => [(am 0, .inr (9, mf0 am)), (am 7, .inl (cI, 5, .inl (fun _ => 0)))]) (va_runS (As := [.int p1]) (rest := []) ⟨hx, hb, hml, hown, hts⟩ (c_X9_isSeed_173 l dC dI cB cI cJ cZ cP cQ H.size p1) (va_cwS 1 hts gX9_draw_X9_isSeed rfl rfl rfl (by decide +kernel) ⟨Nat.le_of_ble_eq_true rfl, Nat.le_of_ble_eq_true rfl⟩) (z_pS hK hP hD zX_nil [] (by decide) rfl) rfl rfl hl.1 rfl (lv_room (Nat.le_of_ble_eq_true rfl)) dX9_draw_6 ⟨Nat.le_of_ble_eq_true rfl, Nat.le_of_ble_eq_true rfl⟩) hP hD hS hA [] [0, 1] [0, 1] rfl rfl (by decide) (by decide) (fun _ => rfl) (by decide) (fun r2 u1 H locs hp3 hP hD hS => ?_)
  have hP : va_P (dC, dI) vwCl [(am 0, .inr (9, mf0 am)), (am 7, .inl (cI, 5, .inl (fun _ => 0)))] H := hP
  have hD : va_D A [(am 0, .inr (9, mf0 am)), (am 7, .inl (cI, 5, .inl (fun _ => 0)))] := hD
  refine W.widen (k := 0) (n := 0) (by decide) (by decide) ?_
  rcases hp3 with ⟨rfl, f4⟩ | ⟨rfl, f5, f6⟩ | ⟨rfl, f7, f8⟩
  · refine lv_if_eq (tgt := 24) hx hb dX9_draw_9 (by decide) (fun _ => ?_) (fun c => absurd (by decide) c)
    refine lv_bipush (v := (-2)) hx hb dX9_draw_24 (by decide) ?_
    have hP9 := hP.sub (ws' := []) [] rfl
    have hD9 := hD.sub (ws' := []) [] (by decide) rfl
    exact z_iret () hx hb hr hlocks hK hP9 hD9 hS hAe hQ rfl (Or.inl (⟨rfl, f4⟩)) dX9_draw_26
  · refine lv_if_eq (tgt := 24) hx hb dX9_draw_9 (by decide) (fun _ => ?_) (fun c => absurd (by decide) c)
    refine lv_bipush (v := (-2)) hx hb dX9_draw_24 (by decide) ?_
    have hP9 := hP.sub (ws' := []) [] rfl
    have hD9 := hD.sub (ws' := []) [] (by decide) rfl
    exact z_iret () hx hb hr hlocks hK hP9 hD9 hS hAe hQ rfl (Or.inr (Or.inl ⟨rfl, f5, f6⟩)) dX9_draw_26
  · refine lv_if_eq (tgt := 24) hx hb dX9_draw_9 (by decide) (fun c => absurd c (by decide)) (fun _ => ?_)
    refine lv_iload_n hx hb dX9_draw_12 rfl (lv_at hl 2 rfl) ?_
    refine lv_i2l hx hb dX9_draw_13 rfl ?_
    refine lv_lconst (v := 1) hx hb dX9_draw_14 (by decide) ?_
    refine lv_ldc2 hx hb hown hk1 dX9_draw_15 ?_
    refine z_fini (w' := fun (u9 : Unit) => [(am 0, .inr (9, mf0 am)), (am 7, .inl (cI, 5, .inl (fun _ => 0)))]) (va_runS (As := [.long p2.toInt64, .long 1, .long 200]) (rest := []) ⟨hx, hb, hml, hown, hts⟩ (c_X9_in_174 l dC dI cB cI cJ cZ cP cQ H.size p2) (va_cwS 3 hts gX9_draw_X9_in rfl rfl rfl (by decide +kernel) ⟨Nat.le_of_ble_eq_true rfl, Nat.le_of_ble_eq_true rfl⟩) (z_pS hK hP hD zX_nil [] (by decide) rfl) rfl rfl hl.1 rfl (lv_room (Nat.le_of_ble_eq_true rfl)) dX9_draw_18 ⟨Nat.le_of_ble_eq_true rfl, Nat.le_of_ble_eq_true rfl⟩) hP hD hS hA [] [0, 1] [0, 1] rfl rfl (by decide) (by decide) (fun _ => rfl) (by decide) (fun r10 u9 H locs hp11 hP hD hS => ?_)
    have hP : va_P (dC, dI) vwCl [(am 0, .inr (9, mf0 am)), (am 7, .inl (cI, 5, .inl (fun _ => 0)))] H := hP
    have hD : va_D A [(am 0, .inr (9, mf0 am)), (am 7, .inl (cI, 5, .inl (fun _ => 0)))] := hD
    refine W.widen (k := 0) (n := 0) (by decide) (by decide) ?_
    rcases hp11 with ⟨rfl, f12⟩ | ⟨rfl, f13, f14⟩ | ⟨rfl, f15, f16⟩
    · refine lv_if_ne (tgt := 27) hx hb dX9_draw_21 (by decide) (fun c => absurd (by decide) c) (fun _ => ?_)
      refine lv_bipush (v := (-2)) hx hb dX9_draw_24 (by decide) ?_
      have hP9 := hP.sub (ws' := []) [] rfl
      have hD9 := hD.sub (ws' := []) [] (by decide) rfl
      exact z_iret () hx hb hr hlocks hK hP9 hD9 hS hAe hQ rfl (Or.inr (Or.inr (Or.inl ⟨rfl, f7, f8, f12⟩))) dX9_draw_26
    · refine lv_if_ne (tgt := 27) hx hb dX9_draw_21 (by decide) (fun c => absurd (by decide) c) (fun _ => ?_)
      refine lv_bipush (v := (-2)) hx hb dX9_draw_24 (by decide) ?_
      have hP9 := hP.sub (ws' := []) [] rfl
      have hD9 := hD.sub (ws' := []) [] (by decide) rfl
      exact z_iret () hx hb hr hlocks hK hP9 hD9 hS hAe hQ rfl (Or.inr (Or.inr (Or.inr (Or.inl ⟨rfl, f7, f8, f13, f14⟩)))) dX9_draw_26
    · refine lv_if_ne (tgt := 27) hx hb dX9_draw_21 (by decide) (fun _ => ?_) (fun c => absurd c (by decide))
      refine lv_aload_n hx hb dX9_draw_27 rfl (lv_at hl 0 rfl) ?_
      refine va_get (D := (dC, dI)) (ci := 9) (v := .ref (am 7)) (C := RX9) (T := TX9) (N := 60) hx hb hts hi9 hown hK hP 0 rfl rfl 17 (by decide) hk2 (fun _ h9 => h9) rfl dX9_draw_28 ?_
      refine lv_iconst (v := 0) hx hb dX9_draw_31 (by decide) ?_
      refine va_iald hx hb hK hP 1 1 rfl rfl (z_in (a := 0) (by decide) (by decide) (by decide)) dX9_draw_32 ?_
      refine z_topi (y := 0) rfl ?_
      refine lv_if_eq (tgt := 45) hx hb dX9_draw_33 (by decide) (fun _ => ?_) (fun c => absurd (by decide) c)
      refine lv_bipush (v := (-6)) hx hb dX9_draw_45 (by decide) ?_
      have hP9 := hP.sub (ws' := []) [] rfl
      have hD9 := hD.sub (ws' := []) [] (by decide) rfl
      exact z_iret () hx hb hr hlocks hK hP9 hD9 hS hAe hQ rfl (Or.inr (Or.inr (Or.inr (Or.inr ⟨rfl, f7, f8, f15, f16⟩)))) dX9_draw_47
set_option maxHeartbeats 4000000 in
set_option maxRecDepth 100000 in
theorem c_X9_tells_176 (l : Launch) (dC : Nat → ClassId) (dI : Nat → Nat → Nat) (cB cI cJ cZ cP cQ : ClassId) (am : Nat → Nat) (sz : Nat) (p1 : Int32) (p2 : Int32) (p3 : Int32) (p4 : Int32) : Met l yX9_tells wsX9_tells ({ frames := 1, cells := 0, slots := 0, locals := 25 } : Room) (zPc [.ref (am 0), .long p1.toInt64, .long p2.toInt64, .long p3.toInt64, .long p4.toInt64] (dC, dI) (zT cB cI cJ cZ cP cQ) [(am 0, .inr (9, mf0 am)), (am 7, .inl (cI, 5, .inl (fun _ => 0)))] sz [] []) (va_Qi (fun r _ => (fun r => (r = (-2) ∧ p1.toInt < 0) ∨ (r = (-2) ∧ 0 ≤ p1.toInt)) r) (zB (dC, dI) (zT cB cI cJ cZ cP cQ) (fun _ : Unit => [(am 0, .inr (9, mf0 am)), (am 7, .inl (cI, 5, .inl (fun _ => 0)))]) [(am 0, .inr (9, mf0 am)), (am 7, .inl (cI, 5, .inl (fun _ => 0)))] sz) (va_A [(am 0, .inr (9, mf0 am)), (am 7, .inl (cI, 5, .inl (fun _ => 0)))] sz)) 0 0 (va_A [(am 0, .inr (9, mf0 am)), (am 7, .inl (cI, 5, .inl (fun _ => 0)))] sz) := by
  refine z_enter (cc := cX9_tells) (maxL := 10) (ret := (some .int)) (by decide) rfl (Nat.le_of_ble_eq_true rfl) ?_
  intro p e s m below meth c A ls Q H locs hx hb hr hml hown hts hlocks hin hK hP hD hA hX hS hAe hQ hl
  have hown : s.vm.findClass RX9 = some m.cls := hown
  have hi9 : ∀ w ∈ wsX90, w ∈ wsX9_tells := fun w h => List.mem_cons_of_mem _ (List.mem_append_right _ h)
  have hk0 := hts (.fieldLink RX9 34 "MonthPushModel" "laws" "[I") (by decide +kernel)
  have hl : lv_has ls 10 [(0, .ref (am 0)), (1, .long p1.toInt64), (3, .long p2.toInt64), (5, .long p3.toInt64), (7, .long p4.toInt64)] := hl
  refine lv_lload_n hx hb dX9_tells_0 rfl (lv_at hl 1 rfl) ?_
  refine lv_lconst (v := 0) hx hb dX9_tells_1 (by decide) ?_
  refine lv_aload_n hx hb dX9_tells_2 rfl (lv_at hl 0 rfl) ?_
  refine va_get (D := (dC, dI)) (ci := 9) (v := .ref (am 7)) (C := RX9) (T := TX9) (N := 60) hx hb hts hi9 hown hK hP 0 rfl rfl 17 (by decide) hk0 (fun _ h9 => h9) rfl dX9_tells_3 ?_
  refine lv_iconst (v := 0) hx hb dX9_tells_6 (by decide) ?_
  refine va_iald hx hb hK hP 1 1 rfl rfl (z_in (a := 0) (by decide) (by decide) (by decide)) dX9_tells_7 ?_
  refine z_topi (y := 0) rfl ?_
  refine lv_iconst (v := 1) hx hb dX9_tells_8 (by decide) ?_
  refine lv_isub hx hb dX9_tells_9 ?_
  refine z_topi (y := (-1)) (by decide +kernel) ?_
  refine lv_i2l (v := (-1)) hx hb dX9_tells_10 (by decide) ?_
  refine z_fini (w' := fun (u1 : Unit) => [(am 0, .inr (9, mf0 am)), (am 7, .inl (cI, 5, .inl (fun _ => 0)))]) (va_runS (As := [.long p1.toInt64, .long 0, .long (-1)]) (rest := []) ⟨hx, hb, hml, hown, hts⟩ (c_X9_in_164 l dC dI cB cI cJ cZ cP cQ H.size p1) (va_cwS 3 hts gX9_tells_X9_in rfl rfl rfl (by decide +kernel) ⟨Nat.le_of_ble_eq_true rfl, Nat.le_of_ble_eq_true rfl⟩) (z_pS hK hP hD zX_nil [] (by decide) rfl) rfl rfl hl.1 rfl (lv_room (Nat.le_of_ble_eq_true rfl)) dX9_tells_11 ⟨Nat.le_of_ble_eq_true rfl, Nat.le_of_ble_eq_true rfl⟩) hP hD hS hA [] [0, 1] [0, 1] rfl rfl (by decide) (by decide) (fun _ => rfl) (by decide) (fun r2 u1 H locs hp3 hP hD hS => ?_)
  have hP : va_P (dC, dI) vwCl [(am 0, .inr (9, mf0 am)), (am 7, .inl (cI, 5, .inl (fun _ => 0)))] H := hP
  have hD : va_D A [(am 0, .inr (9, mf0 am)), (am 7, .inl (cI, 5, .inl (fun _ => 0)))] := hD
  refine W.widen (k := 0) (n := 0) (by decide) (by decide) ?_
  rcases hp3 with ⟨rfl, f4⟩ | ⟨rfl, f5⟩
  · refine lv_if_eq (tgt := 52) hx hb dX9_tells_14 (by decide) (fun _ => ?_) (fun c => absurd (by decide) c)
    refine lv_bipush (v := (-2)) hx hb dX9_tells_52 (by decide) ?_
    exact z_iret () hx hb hr hlocks hK hP hD hS hAe hQ rfl (Or.inl (⟨rfl, f4⟩)) dX9_tells_54
  · refine lv_if_eq (tgt := 52) hx hb dX9_tells_14 (by decide) (fun _ => ?_) (fun c => absurd (by decide) c)
    refine lv_bipush (v := (-2)) hx hb dX9_tells_52 (by decide) ?_
    exact z_iret () hx hb hr hlocks hK hP hD hS hAe hQ rfl (Or.inr ⟨rfl, f5⟩) dX9_tells_54
set_option maxHeartbeats 4000000 in
set_option maxRecDepth 100000 in
theorem c_X9_sheet_176 (l : Launch) (dC : Nat → ClassId) (dI : Nat → Nat → Nat) (cB cI cJ cZ cP cQ : ClassId) (am : Nat → Nat) (sz : Nat) (p1 : Int32) (p2 : Int32) (p3 : Int32) (p4 : Int32) : Met l yX9_sheet wsX9_sheet ({ frames := 2, cells := 0, slots := 0, locals := 54 } : Room) (zPc [.ref (am 0), .int p1, .int p2, .int p3, .int p4] (dC, dI) (zT cB cI cJ cZ cP cQ) [(am 0, .inr (9, mf0 am)), (am 7, .inl (cI, 5, .inl (fun _ => 0)))] sz [] []) (va_Qi (fun r _ => (fun r => (r = (-2) ∧ p1.toInt < 0) ∨ (r = (-2) ∧ 0 ≤ p1.toInt)) r) (zB (dC, dI) (zT cB cI cJ cZ cP cQ) (fun _ : Unit => []) [(am 0, .inr (9, mf0 am)), (am 7, .inl (cI, 5, .inl (fun _ => 0)))] sz) (va_A [(am 0, .inr (9, mf0 am)), (am 7, .inl (cI, 5, .inl (fun _ => 0)))] sz)) 0 0 (va_A [(am 0, .inr (9, mf0 am)), (am 7, .inl (cI, 5, .inl (fun _ => 0)))] sz) := by
  refine z_enter (cc := cX9_sheet) (maxL := 5) (ret := (some .int)) (by decide) rfl (Nat.le_of_ble_eq_true rfl) ?_
  intro p e s m below meth c A ls Q H locs hx hb hr hml hown hts hlocks hin hK hP hD hA hX hS hAe hQ hl
  have hown : s.vm.findClass RX9 = some m.cls := hown
  have hi9 : ∀ w ∈ wsX90, w ∈ wsX9_sheet := fun w h => List.mem_cons_of_mem _ (List.mem_append_right _ h)
  have hk0 := hts (.fieldLink RX9 125 "MonthPushModel" "thrown" "I") (by decide +kernel)
  have hl : lv_has ls 5 [(0, .ref (am 0)), (1, .int p1), (2, .int p2), (3, .int p3), (4, .int p4)] := hl
  refine lv_aload_n hx hb dX9_sheet_0 rfl (lv_at hl 0 rfl) ?_
  refine lv_iconst (v := 0) hx hb dX9_sheet_1 (by decide) ?_
  refine z_put0 (D := (dC, dI)) (ci := 9) (v := .int 0) (ty := .int) (C := RX9) (T := TX9) (N := 60) hx hb hts hi9 tyX9 tyX9_ok nmX9 hown hK hP hD hS 0 rfl rfl 0 (by decide) hk0 (fun _ h9 => h9) rfl (by decide +kernel) rfl rfl rfl dX9_sheet_2 (fun H locs hP hS => ?_)
  refine lv_aload_n hx hb dX9_sheet_5 rfl (lv_at hl 0 rfl) ?_
  refine lv_iload_n hx hb dX9_sheet_6 rfl (lv_at hl 1 rfl) ?_
  refine lv_i2l hx hb dX9_sheet_7 rfl ?_
  refine lv_iload_n hx hb dX9_sheet_8 rfl (lv_at hl 2 rfl) ?_
  refine lv_i2l hx hb dX9_sheet_9 rfl ?_
  refine lv_iload_n hx hb dX9_sheet_10 rfl (lv_at hl 3 rfl) ?_
  refine lv_i2l hx hb dX9_sheet_11 rfl ?_
  refine lv_iload hx hb dX9_sheet_12 (lv_at hl 4 rfl) ?_
  refine lv_i2l hx hb dX9_sheet_14 rfl ?_
  refine z_fini (w' := fun (u1 : Unit) => [(am 0, .inr (9, mf0 am)), (am 7, .inl (cI, 5, .inl (fun _ => 0)))]) (va_runV (As := [.long p1.toInt64, .long p2.toInt64, .long p3.toInt64, .long p4.toInt64]) (rest := []) ⟨hx, hb, hml, hown, hts⟩ (c_X9_tells_176 l dC dI cB cI cJ cZ cP cQ am H.size p1 p2 p3 p4) (cwV 4 hts gX9_sheet_X9_tells rfl rfl rfl (by decide +kernel) ⟨Nat.le_of_ble_eq_true rfl, Nat.le_of_ble_eq_true rfl⟩) (z_pV (ci := 9) hK hP hD zX_nil [0, 1] (by decide) rfl rfl 0 rfl) rfl rfl hl.1 rfl (lv_room (Nat.le_of_ble_eq_true rfl)) dX9_sheet_15 ⟨Nat.le_of_ble_eq_true rfl, Nat.le_of_ble_eq_true rfl⟩) hP hD hS hA [0, 1] [] [0, 1] rfl rfl (by decide) (by decide) (fun _ => rfl) (by decide) (fun r2 u1 H locs hp3 hP hD hS => ?_)
  have hP : va_P (dC, dI) vwCl [(am 0, .inr (9, mf0 am)), (am 7, .inl (cI, 5, .inl (fun _ => 0)))] H := hP
  have hD : va_D A [(am 0, .inr (9, mf0 am)), (am 7, .inl (cI, 5, .inl (fun _ => 0)))] := hD
  refine W.widen (k := 0) (n := 0) (by decide) (by decide) ?_
  rcases hp3 with ⟨rfl, f4⟩ | ⟨rfl, f5⟩
  · have hP9 := hP.sub (ws' := []) [] rfl
    have hD9 := hD.sub (ws' := []) [] (by decide) rfl
    exact z_iret () hx hb hr hlocks hK hP9 hD9 hS hAe hQ rfl (Or.inl (⟨rfl, f4⟩)) dX9_sheet_18
  · have hP9 := hP.sub (ws' := []) [] rfl
    have hD9 := hD.sub (ws' := []) [] (by decide) rfl
    exact z_iret () hx hb hr hlocks hK hP9 hD9 hS hAe hQ rfl (Or.inr ⟨rfl, f5⟩) dX9_sheet_18
set_option maxHeartbeats 4000000 in
set_option maxRecDepth 100000 in
theorem c_X9_sheets_177 (l : Launch) (dC : Nat → ClassId) (dI : Nat → Nat → Nat) (cB cI cJ cZ cP cQ : ClassId) (am : Nat → Nat) (sz : Nat) (p1 : Int32) : Met l yX9_sheets wsX9_sheets ({ frames := 2, cells := 0, slots := 0, locals := 45 } : Room) (zPc [.ref (am 0), .int p1] (dC, dI) (zT cB cI cJ cZ cP cQ) [(am 0, .inr (9, mf0 am)), (am 1, .inl (cI, 4, .inl (fun _ => (-1))))] sz [] []) (va_Qi (fun r _ => (fun r => (r = (-2) ∧ p1.toInt < 0) ∨ (r = (-2) ∧ 0 ≤ p1.toInt ∧ 3 < p1.toInt) ∨ (r = (-6) ∧ 0 ≤ p1.toInt ∧ p1.toInt ≤ 3)) r) (zB (dC, dI) (zT cB cI cJ cZ cP cQ) (fun _ : Unit => []) [(am 0, .inr (9, mf0 am)), (am 1, .inl (cI, 4, .inl (fun _ => (-1))))] sz) (va_A [(am 0, .inr (9, mf0 am)), (am 1, .inl (cI, 4, .inl (fun _ => (-1))))] sz)) 0 0 (va_A [(am 0, .inr (9, mf0 am)), (am 1, .inl (cI, 4, .inl (fun _ => (-1))))] sz) := by
  refine z_enter (cc := cX9_sheets) (maxL := 4) (ret := (some .int)) (by decide) rfl (Nat.le_of_ble_eq_true rfl) ?_
  intro p e s m below meth c A ls Q H locs hx hb hr hml hown hts hlocks hin hK hP hD hA hX hS hAe hQ hl
  have hown : s.vm.findClass RX9 = some m.cls := hown
  have hi9 : ∀ w ∈ wsX90, w ∈ wsX9_sheets := fun w h => List.mem_cons_of_mem _ (List.mem_append_right _ h)
  have hk0 := hts (.fieldLink RX9 125 "MonthPushModel" "thrown" "I") (by decide +kernel)
  have hk1 := hts (.fieldLink RX9 7 "MonthPushModel" "width" "[I") (by decide +kernel)
  have hl : lv_has ls 4 [(0, .ref (am 0)), (1, .int p1)] := hl
  refine lv_aload_n hx hb dX9_sheets_0 rfl (lv_at hl 0 rfl) ?_
  refine lv_iconst (v := 0) hx hb dX9_sheets_1 (by decide) ?_
  refine z_put0 (D := (dC, dI)) (ci := 9) (v := .int 0) (ty := .int) (C := RX9) (T := TX9) (N := 60) hx hb hts hi9 tyX9 tyX9_ok nmX9 hown hK hP hD hS 0 rfl rfl 0 (by decide) hk0 (fun _ h9 => h9) rfl (by decide +kernel) rfl rfl rfl dX9_sheets_2 (fun H locs hP hS => ?_)
  refine lv_iload_n hx hb dX9_sheets_5 rfl (lv_at hl 1 rfl) ?_
  refine z_fini (w' := fun (u1 : Unit) => [(am 0, .inr (9, mf0 am)), (am 1, .inl (cI, 4, .inl (fun _ => (-1))))]) (va_runS (As := [.int p1]) (rest := []) ⟨hx, hb, hml, hown, hts⟩ (c_X9_isSlot_142 l dC dI cB cI cJ cZ cP cQ H.size p1) (va_cwS 1 hts gX9_sheets_X9_isSlot rfl rfl rfl (by decide +kernel) ⟨Nat.le_of_ble_eq_true rfl, Nat.le_of_ble_eq_true rfl⟩) (z_pS hK hP hD zX_nil [] (by decide) rfl) rfl rfl hl.1 rfl (lv_room (Nat.le_of_ble_eq_true rfl)) dX9_sheets_6 ⟨Nat.le_of_ble_eq_true rfl, Nat.le_of_ble_eq_true rfl⟩) hP hD hS hA [] [0, 1] [0, 1] rfl rfl (by decide) (by decide) (fun _ => rfl) (by decide) (fun r2 u1 H locs hp3 hP hD hS => ?_)
  have hP : va_P (dC, dI) vwCl [(am 0, .inr (9, mf0 am)), (am 1, .inl (cI, 4, .inl (fun _ => (-1))))] H := hP
  have hD : va_D A [(am 0, .inr (9, mf0 am)), (am 1, .inl (cI, 4, .inl (fun _ => (-1))))] := hD
  refine W.widen (k := 0) (n := 0) (by decide) (by decide) ?_
  rcases hp3 with ⟨rfl, f4⟩ | ⟨rfl, f5, f6⟩ | ⟨rfl, f7, f8⟩
  · refine lv_if_ne (tgt := 15) hx hb dX9_sheets_9 (by decide) (fun c => absurd (by decide) c) (fun _ => ?_)
    refine lv_bipush (v := (-2)) hx hb dX9_sheets_12 (by decide) ?_
    have hP9 := hP.sub (ws' := []) [] rfl
    have hD9 := hD.sub (ws' := []) [] (by decide) rfl
    exact z_iret () hx hb hr hlocks hK hP9 hD9 hS hAe hQ rfl (Or.inl (⟨rfl, f4⟩)) dX9_sheets_14
  · refine lv_if_ne (tgt := 15) hx hb dX9_sheets_9 (by decide) (fun c => absurd (by decide) c) (fun _ => ?_)
    refine lv_bipush (v := (-2)) hx hb dX9_sheets_12 (by decide) ?_
    have hP9 := hP.sub (ws' := []) [] rfl
    have hD9 := hD.sub (ws' := []) [] (by decide) rfl
    exact z_iret () hx hb hr hlocks hK hP9 hD9 hS hAe hQ rfl (Or.inr (Or.inl ⟨rfl, f5, f6⟩)) dX9_sheets_14
  · refine lv_if_ne (tgt := 15) hx hb dX9_sheets_9 (by decide) (fun _ => ?_) (fun c => absurd c (by decide))
    refine lv_aload_n hx hb dX9_sheets_15 rfl (lv_at hl 0 rfl) ?_
    refine va_get (D := (dC, dI)) (ci := 9) (v := .ref (am 1)) (C := RX9) (T := TX9) (N := 60) hx hb hts hi9 hown hK hP 0 rfl rfl 1 (by decide) hk1 (fun _ h9 => h9) rfl dX9_sheets_16 ?_
    refine lv_iload_n hx hb dX9_sheets_19 rfl (lv_at hl 1 rfl) ?_
    refine va_iald hx hb hK hP 1 1 rfl rfl (z_in rfl (by omega) (by omega)) dX9_sheets_20 ?_
    refine z_topi (y := (-1)) rfl ?_
    refine lv_iconst (v := (-1)) hx hb dX9_sheets_21 (by decide) ?_
    refine lv_icmp_ne (tgt := 28) hx hb dX9_sheets_22 (by decide) (fun c => absurd (by decide) c) (fun _ => ?_)
    refine lv_bipush (v := (-6)) hx hb dX9_sheets_25 (by decide) ?_
    have hP9 := hP.sub (ws' := []) [] rfl
    have hD9 := hD.sub (ws' := []) [] (by decide) rfl
    exact z_iret () hx hb hr hlocks hK hP9 hD9 hS hAe hQ rfl (Or.inr (Or.inr ⟨rfl, f7, f8⟩)) dX9_sheets_27
set_option maxHeartbeats 4000000 in
set_option maxRecDepth 100000 in
theorem c_X9_isSheet_179 (l : Launch) (dC : Nat → ClassId) (dI : Nat → Nat → Nat) (cB cI cJ cZ cP cQ : ClassId) (am : Nat → Nat) (sz : Nat) (p1 : Int32) : Met l yX9_isSheet wsX9_isSheet ({ frames := 1, cells := 0, slots := 0, locals := 25 } : Room) (zPc [.ref (am 0), .int p1] (dC, dI) (zT cB cI cJ cZ cP cQ) [(am 0, .inr (9, mf0 am)), (am 25, .inl (cI, 5, .inl (fun _ => 0)))] sz [] []) (va_Qi (fun r _ => (fun r => (r = 0 ∧ p1.toInt < 0) ∨ (r = 0 ∧ 0 ≤ p1.toInt)) r) (zB (dC, dI) (zT cB cI cJ cZ cP cQ) (fun _ : Unit => [(am 0, .inr (9, mf0 am)), (am 25, .inl (cI, 5, .inl (fun _ => 0)))]) [(am 0, .inr (9, mf0 am)), (am 25, .inl (cI, 5, .inl (fun _ => 0)))] sz) (va_A [(am 0, .inr (9, mf0 am)), (am 25, .inl (cI, 5, .inl (fun _ => 0)))] sz)) 0 0 (va_A [(am 0, .inr (9, mf0 am)), (am 25, .inl (cI, 5, .inl (fun _ => 0)))] sz) := by
  refine z_enter (cc := cX9_isSheet) (maxL := 2) (ret := (some .boolean)) (by decide) rfl (Nat.le_of_ble_eq_true rfl) ?_
  intro p e s m below meth c A ls Q H locs hx hb hr hml hown hts hlocks hin hK hP hD hA hX hS hAe hQ hl
  have hown : s.vm.findClass RX9 = some m.cls := hown
  have hi9 : ∀ w ∈ wsX90, w ∈ wsX9_isSheet := fun w h => List.mem_cons_of_mem _ (List.mem_append_right _ h)
  have hk0 := hts (.fieldLink RX9 89 "MonthPushModel" "sheets" "[I") (by decide +kernel)
  have hl : lv_has ls 2 [(0, .ref (am 0)), (1, .int p1)] := hl
  refine lv_iload_n hx hb dX9_isSheet_0 rfl (lv_at hl 1 rfl) ?_
  refine lv_i2l hx hb dX9_isSheet_1 rfl ?_
  refine lv_lconst (v := 0) hx hb dX9_isSheet_2 (by decide) ?_
  refine lv_aload_n hx hb dX9_isSheet_3 rfl (lv_at hl 0 rfl) ?_
  refine va_get (D := (dC, dI)) (ci := 9) (v := .ref (am 25)) (C := RX9) (T := TX9) (N := 60) hx hb hts hi9 hown hK hP 0 rfl rfl 35 (by decide) hk0 (fun _ h9 => h9) rfl dX9_isSheet_4 ?_
  refine lv_iconst (v := 0) hx hb dX9_isSheet_7 (by decide) ?_
  refine va_iald hx hb hK hP 1 1 rfl rfl (z_in (a := 0) (by decide) (by decide) (by decide)) dX9_isSheet_8 ?_
  refine z_topi (y := 0) rfl ?_
  refine lv_iconst (v := 1) hx hb dX9_isSheet_9 (by decide) ?_
  refine lv_isub hx hb dX9_isSheet_10 ?_
  refine z_topi (y := (-1)) (by decide +kernel) ?_
  refine lv_i2l (v := (-1)) hx hb dX9_isSheet_11 (by decide) ?_
  refine z_fini (w' := fun (u1 : Unit) => [(am 0, .inr (9, mf0 am)), (am 25, .inl (cI, 5, .inl (fun _ => 0)))]) (va_runS (As := [.long p1.toInt64, .long 0, .long (-1)]) (rest := []) ⟨hx, hb, hml, hown, hts⟩ (c_X9_in_164 l dC dI cB cI cJ cZ cP cQ H.size p1) (va_cwS 3 hts gX9_isSheet_X9_in rfl rfl rfl (by decide +kernel) ⟨Nat.le_of_ble_eq_true rfl, Nat.le_of_ble_eq_true rfl⟩) (z_pS hK hP hD zX_nil [] (by decide) rfl) rfl rfl hl.1 rfl (lv_room (Nat.le_of_ble_eq_true rfl)) dX9_isSheet_12 ⟨Nat.le_of_ble_eq_true rfl, Nat.le_of_ble_eq_true rfl⟩) hP hD hS hA [] [0, 1] [0, 1] rfl rfl (by decide) (by decide) (fun _ => rfl) (by decide) (fun r2 u1 H locs hp3 hP hD hS => ?_)
  have hP : va_P (dC, dI) vwCl [(am 0, .inr (9, mf0 am)), (am 25, .inl (cI, 5, .inl (fun _ => 0)))] H := hP
  have hD : va_D A [(am 0, .inr (9, mf0 am)), (am 25, .inl (cI, 5, .inl (fun _ => 0)))] := hD
  refine W.widen (k := 0) (n := 0) (by decide) (by decide) ?_
  rcases hp3 with ⟨rfl, f4⟩ | ⟨rfl, f5⟩
  · exact z_zret () hx hb hr hlocks hK hP hD hS hAe hQ rfl (Or.inl (⟨rfl, f4⟩)) (by decide) dX9_isSheet_15
  · exact z_zret () hx hb hr hlocks hK hP hD hS hAe hQ rfl (Or.inr ⟨rfl, f5⟩) (by decide) dX9_isSheet_15
set_option maxHeartbeats 4000000 in
set_option maxRecDepth 100000 in
theorem c_X9_told_179 (l : Launch) (dC : Nat → ClassId) (dI : Nat → Nat → Nat) (cB cI cJ cZ cP cQ : ClassId) (am : Nat → Nat) (sz : Nat) (p1 : Int32) (p2 : Int32) : Met l yX9_told wsX9_told ({ frames := 2, cells := 0, slots := 0, locals := 46 } : Room) (zPc [.ref (am 0), .int p1, .int p2] (dC, dI) (zT cB cI cJ cZ cP cQ) [(am 0, .inr (9, mf0 am)), (am 25, .inl (cI, 5, .inl (fun _ => 0)))] sz [] []) (va_Qi (fun r _ => (fun r => (r = (-1) ∧ p1.toInt < 0) ∨ (r = (-1) ∧ 0 ≤ p1.toInt)) r) (zB (dC, dI) (zT cB cI cJ cZ cP cQ) (fun _ : Unit => []) [(am 0, .inr (9, mf0 am)), (am 25, .inl (cI, 5, .inl (fun _ => 0)))] sz) (va_A [(am 0, .inr (9, mf0 am)), (am 25, .inl (cI, 5, .inl (fun _ => 0)))] sz)) 0 0 (va_A [(am 0, .inr (9, mf0 am)), (am 25, .inl (cI, 5, .inl (fun _ => 0)))] sz) := by
  refine z_enter (cc := cX9_told) (maxL := 3) (ret := (some .int)) (by decide) rfl (Nat.le_of_ble_eq_true rfl) ?_
  intro p e s m below meth c A ls Q H locs hx hb hr hml hown hts hlocks hin hK hP hD hA hX hS hAe hQ hl
  have hown : s.vm.findClass RX9 = some m.cls := hown
  have hi9 : ∀ w ∈ wsX90, w ∈ wsX9_told := fun w h => List.mem_cons_of_mem _ (List.mem_append_right _ h)
  have hk0 := hts (.fieldLink RX9 125 "MonthPushModel" "thrown" "I") (by decide +kernel)
  have hl : lv_has ls 3 [(0, .ref (am 0)), (1, .int p1), (2, .int p2)] := hl
  refine lv_aload_n hx hb dX9_told_0 rfl (lv_at hl 0 rfl) ?_
  refine lv_iconst (v := 0) hx hb dX9_told_1 (by decide) ?_
  refine z_put0 (D := (dC, dI)) (ci := 9) (v := .int 0) (ty := .int) (C := RX9) (T := TX9) (N := 60) hx hb hts hi9 tyX9 tyX9_ok nmX9 hown hK hP hD hS 0 rfl rfl 0 (by decide) hk0 (fun _ h9 => h9) rfl (by decide +kernel) rfl rfl rfl dX9_told_2 (fun H locs hP hS => ?_)
  refine lv_aload_n hx hb dX9_told_5 rfl (lv_at hl 0 rfl) ?_
  refine lv_iload_n hx hb dX9_told_6 rfl (lv_at hl 1 rfl) ?_
  refine z_fini (w' := fun (u1 : Unit) => [(am 0, .inr (9, mf0 am)), (am 25, .inl (cI, 5, .inl (fun _ => 0)))]) (va_runV (As := [.int p1]) (rest := []) ⟨hx, hb, hml, hown, hts⟩ (c_X9_isSheet_179 l dC dI cB cI cJ cZ cP cQ am H.size p1) (cwV 1 hts gX9_told_X9_isSheet rfl rfl rfl (by decide +kernel) ⟨Nat.le_of_ble_eq_true rfl, Nat.le_of_ble_eq_true rfl⟩) (z_pV (ci := 9) hK hP hD zX_nil [0, 1] (by decide) rfl rfl 0 rfl) rfl rfl hl.1 rfl (lv_room (Nat.le_of_ble_eq_true rfl)) dX9_told_7 ⟨Nat.le_of_ble_eq_true rfl, Nat.le_of_ble_eq_true rfl⟩) hP hD hS hA [0, 1] [] [0, 1] rfl rfl (by decide) (by decide) (fun _ => rfl) (by decide) (fun r2 u1 H locs hp3 hP hD hS => ?_)
  have hP : va_P (dC, dI) vwCl [(am 0, .inr (9, mf0 am)), (am 25, .inl (cI, 5, .inl (fun _ => 0)))] H := hP
  have hD : va_D A [(am 0, .inr (9, mf0 am)), (am 25, .inl (cI, 5, .inl (fun _ => 0)))] := hD
  refine W.widen (k := 0) (n := 0) (by decide) (by decide) ?_
  rcases hp3 with ⟨rfl, f4⟩ | ⟨rfl, f5⟩
  · refine lv_if_ne (tgt := 15) hx hb dX9_told_10 (by decide) (fun c => absurd (by decide) c) (fun _ => ?_)
    refine lv_iconst (v := (-1)) hx hb dX9_told_13 (by decide) ?_
    have hP9 := hP.sub (ws' := []) [] rfl
    have hD9 := hD.sub (ws' := []) [] (by decide) rfl
    exact z_iret () hx hb hr hlocks hK hP9 hD9 hS hAe hQ rfl (Or.inl (⟨rfl, f4⟩)) dX9_told_14
  · refine lv_if_ne (tgt := 15) hx hb dX9_told_10 (by decide) (fun c => absurd (by decide) c) (fun _ => ?_)
    refine lv_iconst (v := (-1)) hx hb dX9_told_13 (by decide) ?_
    have hP9 := hP.sub (ws' := []) [] rfl
    have hD9 := hD.sub (ws' := []) [] (by decide) rfl
    exact z_iret () hx hb hr hlocks hK hP9 hD9 hS hAe hQ rfl (Or.inr ⟨rfl, f5⟩) dX9_told_14
set_option maxHeartbeats 4000000 in
set_option maxRecDepth 100000 in
theorem c_X9_isThere_181 (l : Launch) (dC : Nat → ClassId) (dI : Nat → Nat → Nat) (cB cI cJ cZ cP cQ : ClassId) (am : Nat → Nat) (sz : Nat) (p1 : Int32) : Met l yX9_isThere wsX9_isThere ({ frames := 2, cells := 0, slots := 0, locals := 46 } : Room) (zPc [.ref (am 0), .int p1] (dC, dI) (zT cB cI cJ cZ cP cQ) [(am 0, .inr (9, mf0 am)), (am 25, .inl (cI, 5, .inl (fun _ => 0)))] sz [] []) (va_Qi (fun r _ => (fun r => (r = 0 ∧ p1.toInt < 0) ∨ (r = 0 ∧ 0 ≤ p1.toInt)) r) (zB (dC, dI) (zT cB cI cJ cZ cP cQ) (fun _ : Unit => [(am 0, .inr (9, mf0 am)), (am 25, .inl (cI, 5, .inl (fun _ => 0)))]) [(am 0, .inr (9, mf0 am)), (am 25, .inl (cI, 5, .inl (fun _ => 0)))] sz) (va_A [(am 0, .inr (9, mf0 am)), (am 25, .inl (cI, 5, .inl (fun _ => 0)))] sz)) 0 0 (va_A [(am 0, .inr (9, mf0 am)), (am 25, .inl (cI, 5, .inl (fun _ => 0)))] sz) := by
  refine z_enter (cc := cX9_isThere) (maxL := 2) (ret := (some .boolean)) (by decide) rfl (Nat.le_of_ble_eq_true rfl) ?_
  intro p e s m below meth c A ls Q H locs hx hb hr hml hown hts hlocks hin hK hP hD hA hX hS hAe hQ hl
  have hown : s.vm.findClass RX9 = some m.cls := hown
  have hl : lv_has ls 2 [(0, .ref (am 0)), (1, .int p1)] := hl
  refine lv_aload_n hx hb dX9_isThere_0 rfl (lv_at hl 0 rfl) ?_
  refine lv_iload_n hx hb dX9_isThere_1 rfl (lv_at hl 1 rfl) ?_
  refine z_fini (w' := fun (u1 : Unit) => [(am 0, .inr (9, mf0 am)), (am 25, .inl (cI, 5, .inl (fun _ => 0)))]) (va_runV (As := [.int p1]) (rest := []) ⟨hx, hb, hml, hown, hts⟩ (c_X9_isSheet_179 l dC dI cB cI cJ cZ cP cQ am H.size p1) (cwV 1 hts gX9_isThere_X9_isSheet rfl rfl rfl (by decide +kernel) ⟨Nat.le_of_ble_eq_true rfl, Nat.le_of_ble_eq_true rfl⟩) (z_pV (ci := 9) hK hP hD zX_nil [0, 1] (by decide) rfl rfl 0 rfl) rfl rfl hl.1 rfl (lv_room (Nat.le_of_ble_eq_true rfl)) dX9_isThere_2 ⟨Nat.le_of_ble_eq_true rfl, Nat.le_of_ble_eq_true rfl⟩) hP hD hS hA [0, 1] [] [0, 1] rfl rfl (by decide) (by decide) (fun _ => rfl) (by decide) (fun r2 u1 H locs hp3 hP hD hS => ?_)
  have hP : va_P (dC, dI) vwCl [(am 0, .inr (9, mf0 am)), (am 25, .inl (cI, 5, .inl (fun _ => 0)))] H := hP
  have hD : va_D A [(am 0, .inr (9, mf0 am)), (am 25, .inl (cI, 5, .inl (fun _ => 0)))] := hD
  refine W.widen (k := 0) (n := 0) (by decide) (by decide) ?_
  rcases hp3 with ⟨rfl, f4⟩ | ⟨rfl, f5⟩
  · refine lv_if_eq (tgt := 25) hx hb dX9_isThere_5 (by decide) (fun _ => ?_) (fun c => absurd (by decide) c)
    refine lv_iconst (v := 0) hx hb dX9_isThere_25 (by decide) ?_
    exact z_zret () hx hb hr hlocks hK hP hD hS hAe hQ rfl (Or.inl (⟨rfl, f4⟩)) (by decide) dX9_isThere_26
  · refine lv_if_eq (tgt := 25) hx hb dX9_isThere_5 (by decide) (fun _ => ?_) (fun c => absurd (by decide) c)
    refine lv_iconst (v := 0) hx hb dX9_isThere_25 (by decide) ?_
    exact z_zret () hx hb hr hlocks hK hP hD hS hAe hQ rfl (Or.inr ⟨rfl, f5⟩) (by decide) dX9_isThere_26
set_option maxHeartbeats 4000000 in
set_option maxRecDepth 100000 in
theorem c_X9_would_181 (l : Launch) (dC : Nat → ClassId) (dI : Nat → Nat → Nat) (cB cI cJ cZ cP cQ : ClassId) (am : Nat → Nat) (sz : Nat) (p1 : Int32) (p2 : Int32) : Met l yX9_would wsX9_would ({ frames := 3, cells := 0, slots := 0, locals := 67 } : Room) (zPc [.ref (am 0), .int p1, .int p2] (dC, dI) (zT cB cI cJ cZ cP cQ) [(am 0, .inr (9, mf0 am)), (am 25, .inl (cI, 5, .inl (fun _ => 0)))] sz [] []) (va_Qi (fun r _ => (fun r => (r = (-2) ∧ p1.toInt < 0) ∨ (r = (-2) ∧ 0 ≤ p1.toInt)) r) (zB (dC, dI) (zT cB cI cJ cZ cP cQ) (fun _ : Unit => []) [(am 0, .inr (9, mf0 am)), (am 25, .inl (cI, 5, .inl (fun _ => 0)))] sz) (va_A [(am 0, .inr (9, mf0 am)), (am 25, .inl (cI, 5, .inl (fun _ => 0)))] sz)) 0 0 (va_A [(am 0, .inr (9, mf0 am)), (am 25, .inl (cI, 5, .inl (fun _ => 0)))] sz) := by
  refine z_enter (cc := cX9_would) (maxL := 4) (ret := (some .int)) (by decide) rfl (Nat.le_of_ble_eq_true rfl) ?_
  intro p e s m below meth c A ls Q H locs hx hb hr hml hown hts hlocks hin hK hP hD hA hX hS hAe hQ hl
  have hown : s.vm.findClass RX9 = some m.cls := hown
  have hi9 : ∀ w ∈ wsX90, w ∈ wsX9_would := fun w h => List.mem_cons_of_mem _ (List.mem_append_right _ h)
  have hk0 := hts (.fieldLink RX9 125 "MonthPushModel" "thrown" "I") (by decide +kernel)
  have hl : lv_has ls 4 [(0, .ref (am 0)), (1, .int p1), (2, .int p2)] := hl
  refine lv_aload_n hx hb dX9_would_0 rfl (lv_at hl 0 rfl) ?_
  refine lv_iconst (v := 0) hx hb dX9_would_1 (by decide) ?_
  refine z_put0 (D := (dC, dI)) (ci := 9) (v := .int 0) (ty := .int) (C := RX9) (T := TX9) (N := 60) hx hb hts hi9 tyX9 tyX9_ok nmX9 hown hK hP hD hS 0 rfl rfl 0 (by decide) hk0 (fun _ h9 => h9) rfl (by decide +kernel) rfl rfl rfl dX9_would_2 (fun H locs hP hS => ?_)
  refine lv_aload_n hx hb dX9_would_5 rfl (lv_at hl 0 rfl) ?_
  refine lv_iload_n hx hb dX9_would_6 rfl (lv_at hl 1 rfl) ?_
  refine z_fini (w' := fun (u1 : Unit) => [(am 0, .inr (9, mf0 am)), (am 25, .inl (cI, 5, .inl (fun _ => 0)))]) (va_runV (As := [.int p1]) (rest := []) ⟨hx, hb, hml, hown, hts⟩ (c_X9_isThere_181 l dC dI cB cI cJ cZ cP cQ am H.size p1) (cwV 1 hts gX9_would_X9_isThere rfl rfl rfl (by decide +kernel) ⟨Nat.le_of_ble_eq_true rfl, Nat.le_of_ble_eq_true rfl⟩) (z_pV (ci := 9) hK hP hD zX_nil [0, 1] (by decide) rfl rfl 0 rfl) rfl rfl hl.1 rfl (lv_room (Nat.le_of_ble_eq_true rfl)) dX9_would_7 ⟨Nat.le_of_ble_eq_true rfl, Nat.le_of_ble_eq_true rfl⟩) hP hD hS hA [0, 1] [] [0, 1] rfl rfl (by decide) (by decide) (fun _ => rfl) (by decide) (fun r2 u1 H locs hp3 hP hD hS => ?_)
  have hP : va_P (dC, dI) vwCl [(am 0, .inr (9, mf0 am)), (am 25, .inl (cI, 5, .inl (fun _ => 0)))] H := hP
  have hD : va_D A [(am 0, .inr (9, mf0 am)), (am 25, .inl (cI, 5, .inl (fun _ => 0)))] := hD
  refine W.widen (k := 0) (n := 0) (by decide) (by decide) ?_
  rcases hp3 with ⟨rfl, f4⟩ | ⟨rfl, f5⟩
  · refine lv_if_eq (tgt := 20) hx hb dX9_would_10 (by decide) (fun _ => ?_) (fun c => absurd (by decide) c)
    refine lv_bipush (v := (-2)) hx hb dX9_would_20 (by decide) ?_
    have hP9 := hP.sub (ws' := []) [] rfl
    have hD9 := hD.sub (ws' := []) [] (by decide) rfl
    exact z_iret () hx hb hr hlocks hK hP9 hD9 hS hAe hQ rfl (Or.inl (⟨rfl, f4⟩)) dX9_would_22
  · refine lv_if_eq (tgt := 20) hx hb dX9_would_10 (by decide) (fun _ => ?_) (fun c => absurd (by decide) c)
    refine lv_bipush (v := (-2)) hx hb dX9_would_20 (by decide) ?_
    have hP9 := hP.sub (ws' := []) [] rfl
    have hD9 := hD.sub (ws' := []) [] (by decide) rfl
    exact z_iret () hx hb hr hlocks hK hP9 hD9 hS hAe hQ rfl (Or.inr ⟨rfl, f5⟩) dX9_would_22
set_option maxHeartbeats 4000000 in
set_option maxRecDepth 100000 in
theorem c_X9_worth_182 (l : Launch) (dC : Nat → ClassId) (dI : Nat → Nat → Nat) (cB cI cJ cZ cP cQ : ClassId) (am : Nat → Nat) (sz : Nat) (p1 : Int32) : Met l yX9_worth wsX9_worth ({ frames := 3, cells := 0, slots := 0, locals := 67 } : Room) (zPc [.ref (am 0), .int p1] (dC, dI) (zT cB cI cJ cZ cP cQ) [(am 0, .inr (9, mf0 am)), (am 25, .inl (cI, 5, .inl (fun _ => 0)))] sz [] []) (va_Qi (fun r _ => (fun r => (r = (-2000000000) ∧ p1.toInt < 0) ∨ (r = (-2000000000) ∧ 0 ≤ p1.toInt)) r) (zB (dC, dI) (zT cB cI cJ cZ cP cQ) (fun _ : Unit => []) [(am 0, .inr (9, mf0 am)), (am 25, .inl (cI, 5, .inl (fun _ => 0)))] sz) (va_A [(am 0, .inr (9, mf0 am)), (am 25, .inl (cI, 5, .inl (fun _ => 0)))] sz)) 0 0 (va_A [(am 0, .inr (9, mf0 am)), (am 25, .inl (cI, 5, .inl (fun _ => 0)))] sz) := by
  refine z_enter (cc := cX9_worth) (maxL := 2) (ret := (some .int)) (by decide) rfl (Nat.le_of_ble_eq_true rfl) ?_
  intro p e s m below meth c A ls Q H locs hx hb hr hml hown hts hlocks hin hK hP hD hA hX hS hAe hQ hl
  have hown : s.vm.findClass RX9 = some m.cls := hown
  have hi9 : ∀ w ∈ wsX90, w ∈ wsX9_worth := fun w h => List.mem_cons_of_mem _ (List.mem_append_right _ h)
  have hk0 := hts (.fieldLink RX9 125 "MonthPushModel" "thrown" "I") (by decide +kernel)
  have hk1 := hts (.constant RX9 369 (-2000000000)) (by decide +kernel)
  have hl : lv_has ls 2 [(0, .ref (am 0)), (1, .int p1)] := hl
  refine lv_aload_n hx hb dX9_worth_0 rfl (lv_at hl 0 rfl) ?_
  refine lv_iconst (v := 0) hx hb dX9_worth_1 (by decide) ?_
  refine z_put0 (D := (dC, dI)) (ci := 9) (v := .int 0) (ty := .int) (C := RX9) (T := TX9) (N := 60) hx hb hts hi9 tyX9 tyX9_ok nmX9 hown hK hP hD hS 0 rfl rfl 0 (by decide) hk0 (fun _ h9 => h9) rfl (by decide +kernel) rfl rfl rfl dX9_worth_2 (fun H locs hP hS => ?_)
  refine lv_aload_n hx hb dX9_worth_5 rfl (lv_at hl 0 rfl) ?_
  refine lv_iload_n hx hb dX9_worth_6 rfl (lv_at hl 1 rfl) ?_
  refine z_fini (w' := fun (u1 : Unit) => [(am 0, .inr (9, mf0 am)), (am 25, .inl (cI, 5, .inl (fun _ => 0)))]) (va_runV (As := [.int p1]) (rest := []) ⟨hx, hb, hml, hown, hts⟩ (c_X9_isThere_181 l dC dI cB cI cJ cZ cP cQ am H.size p1) (cwV 1 hts gX9_worth_X9_isThere rfl rfl rfl (by decide +kernel) ⟨Nat.le_of_ble_eq_true rfl, Nat.le_of_ble_eq_true rfl⟩) (z_pV (ci := 9) hK hP hD zX_nil [0, 1] (by decide) rfl rfl 0 rfl) rfl rfl hl.1 rfl (lv_room (Nat.le_of_ble_eq_true rfl)) dX9_worth_7 ⟨Nat.le_of_ble_eq_true rfl, Nat.le_of_ble_eq_true rfl⟩) hP hD hS hA [0, 1] [] [0, 1] rfl rfl (by decide) (by decide) (fun _ => rfl) (by decide) (fun r2 u1 H locs hp3 hP hD hS => ?_)
  have hP : va_P (dC, dI) vwCl [(am 0, .inr (9, mf0 am)), (am 25, .inl (cI, 5, .inl (fun _ => 0)))] H := hP
  have hD : va_D A [(am 0, .inr (9, mf0 am)), (am 25, .inl (cI, 5, .inl (fun _ => 0)))] := hD
  refine W.widen (k := 0) (n := 0) (by decide) (by decide) ?_
  rcases hp3 with ⟨rfl, f4⟩ | ⟨rfl, f5⟩
  · refine lv_if_eq (tgt := 21) hx hb dX9_worth_10 (by decide) (fun _ => ?_) (fun c => absurd (by decide) c)
    refine lv_ldcw hx hb hown hk1 dX9_worth_21 ?_
    have hP9 := hP.sub (ws' := []) [] rfl
    have hD9 := hD.sub (ws' := []) [] (by decide) rfl
    exact z_iret () hx hb hr hlocks hK hP9 hD9 hS hAe hQ rfl (Or.inl (⟨rfl, f4⟩)) dX9_worth_24
  · refine lv_if_eq (tgt := 21) hx hb dX9_worth_10 (by decide) (fun _ => ?_) (fun c => absurd (by decide) c)
    refine lv_ldcw hx hb hown hk1 dX9_worth_21 ?_
    have hP9 := hP.sub (ws' := []) [] rfl
    have hD9 := hD.sub (ws' := []) [] (by decide) rfl
    exact z_iret () hx hb hr hlocks hK hP9 hD9 hS hAe hQ rfl (Or.inr ⟨rfl, f5⟩) dX9_worth_24
set_option maxHeartbeats 4000000 in
set_option maxRecDepth 100000 in
theorem c_X9_in_184 (l : Launch) (dC : Nat → ClassId) (dI : Nat → Nat → Nat) (cB cI cJ cZ cP cQ : ClassId) (sz : Nat) (p0 : Int32) : Met l yX9_in wsX9_in ({ frames := 0, cells := 0, slots := 0, locals := 0 } : Room) (zPc [.long p0.toInt64, .long 0, .long 12] (dC, dI) (zT cB cI cJ cZ cP cQ) [] sz [] []) (va_Qi (fun r _ => (fun r => (r = 0 ∧ p0.toInt < 0) ∨ (r = 0 ∧ 0 ≤ p0.toInt ∧ 12 < p0.toInt) ∨ (r = 1 ∧ 0 ≤ p0.toInt ∧ p0.toInt ≤ 12)) r) (zB (dC, dI) (zT cB cI cJ cZ cP cQ) (fun _ : Unit => []) [] sz) (va_A [] sz)) 0 0 (va_A [] sz) := by
  refine z_enter (cc := cX9_in) (maxL := 6) (ret := (some .boolean)) (by decide) rfl (Nat.le_of_ble_eq_true rfl) ?_
  intro p e s m below meth c A ls Q H locs hx hb hr hml hown hts hlocks hin hK hP hD hA hX hS hAe hQ hl
  have hown : s.vm.findClass RX9 = some m.cls := hown
  have hl : lv_has ls 6 [(0, .long p0.toInt64), (2, .long 0), (4, .long 12)] := hl
  refine lv_lload_n hx hb dX9_in_0 rfl (lv_at hl 0 rfl) ?_
  refine lv_lload_n hx hb dX9_in_1 rfl (lv_at hl 1 rfl) ?_
  refine W.lcmp hx hb dX9_in_2 ?_
  refine lv_if_lt (tgt := 17) hx hb dX9_in_3 (by decide) (fun c_1 => ?_) (fun c_1 => ?_)
  · have f2 : p0.toInt < 0 := z_llt (z_i2l p0) (by decide) c_1
    refine lv_iconst (v := 0) hx hb dX9_in_17 (by decide) ?_
    exact z_zret () hx hb hr hlocks hK hP hD hS hAe hQ rfl (Or.inl (⟨rfl, f2⟩)) (by decide) dX9_in_18
  · have f2 : 0 ≤ p0.toInt := z_lnlt (z_i2l p0) (by decide) c_1
    refine lv_lload_n hx hb dX9_in_6 rfl (lv_at hl 0 rfl) ?_
    refine lv_lload hx hb dX9_in_7 (lv_at hl 2 rfl) ?_
    refine W.lcmp hx hb dX9_in_9 ?_
    refine lv_if_gt (tgt := 17) hx hb dX9_in_10 (by decide) (fun c_3 => ?_) (fun c_3 => ?_)
    · have f4 : 12 < p0.toInt := z_lgt (z_i2l p0) (by decide) c_3
      refine lv_iconst (v := 0) hx hb dX9_in_17 (by decide) ?_
      exact z_zret () hx hb hr hlocks hK hP hD hS hAe hQ rfl (Or.inr (Or.inl ⟨rfl, f2, f4⟩)) (by decide) dX9_in_18
    · have f4 : p0.toInt ≤ 12 := z_lngt (z_i2l p0) (by decide) c_3
      refine lv_iconst (v := 1) hx hb dX9_in_13 (by decide) ?_
      refine lv_goto (tgt := 18) hx hb dX9_in_14 (by decide) ?_
      exact z_zret () hx hb hr hlocks hK hP hD hS hAe hQ rfl (Or.inr (Or.inr ⟨rfl, f2, f4⟩)) (by decide) dX9_in_18
set_option maxHeartbeats 4000000 in
set_option maxRecDepth 100000 in
theorem c_X9_month_184 (l : Launch) (dC : Nat → ClassId) (dI : Nat → Nat → Nat) (cB cI cJ cZ cP cQ : ClassId) (am : Nat → Nat) (sz : Nat) (p1 : Int32) (p2 : Int32) : Met l yX9_month wsX9_month ({ frames := 1, cells := 0, slots := 0, locals := 25 } : Room) (zPc [.ref (am 0), .int p1, .int p2] (dC, dI) (zT cB cI cJ cZ cP cQ) [(am 0, .inr (9, mf0 am)), (am 25, .inl (cI, 5, .inl (fun _ => 0)))] sz [] []) (va_Qi (fun r _ => (fun r => (r = (-1) ∧ p1.toInt < 0) ∨ (r = (-1) ∧ 0 ≤ p1.toInt ∧ 12 < p1.toInt) ∨ (r = (-1) ∧ 0 ≤ p1.toInt ∧ p1.toInt ≤ 12 ∧ p2.toInt < 0) ∨ (r = (-1) ∧ 0 ≤ p1.toInt ∧ p1.toInt ≤ 12 ∧ 0 ≤ p2.toInt ∧ 3 < p2.toInt) ∨ (r = 0 ∧ 0 ≤ p1.toInt ∧ p1.toInt ≤ 12 ∧ 0 ≤ p2.toInt ∧ p2.toInt ≤ 3)) r) (zB (dC, dI) (zT cB cI cJ cZ cP cQ) (fun _ : Unit => []) [(am 0, .inr (9, mf0 am)), (am 25, .inl (cI, 5, .inl (fun _ => 0)))] sz) (va_A [(am 0, .inr (9, mf0 am)), (am 25, .inl (cI, 5, .inl (fun _ => 0)))] sz)) 0 0 (va_A [(am 0, .inr (9, mf0 am)), (am 25, .inl (cI, 5, .inl (fun _ => 0)))] sz) := by
  refine z_enter (cc := cX9_month) (maxL := 5) (ret := (some .int)) (by decide) rfl (Nat.le_of_ble_eq_true rfl) ?_
  intro p e s m below meth c A ls Q H locs hx hb hr hml hown hts hlocks hin hK hP hD hA hX hS hAe hQ hl
  have hown : s.vm.findClass RX9 = some m.cls := hown
  have hi9 : ∀ w ∈ wsX90, w ∈ wsX9_month := fun w h => List.mem_cons_of_mem _ (List.mem_append_right _ h)
  have hk0 := hts (.fieldLink RX9 125 "MonthPushModel" "thrown" "I") (by decide +kernel)
  have hk1 := hts (.constantLong RX9 222 12) (by decide +kernel)
  have hk2 := hts (.constantLong RX9 128 3) (by decide +kernel)
  have hk3 := hts (.fieldLink RX9 89 "MonthPushModel" "sheets" "[I") (by decide +kernel)
  have hl : lv_has ls 5 [(0, .ref (am 0)), (1, .int p1), (2, .int p2)] := hl
  refine lv_aload_n hx hb dX9_month_0 rfl (lv_at hl 0 rfl) ?_
  refine lv_iconst (v := 0) hx hb dX9_month_1 (by decide) ?_
  refine z_put0 (D := (dC, dI)) (ci := 9) (v := .int 0) (ty := .int) (C := RX9) (T := TX9) (N := 60) hx hb hts hi9 tyX9 tyX9_ok nmX9 hown hK hP hD hS 0 rfl rfl 0 (by decide) hk0 (fun _ h9 => h9) rfl (by decide +kernel) rfl rfl rfl dX9_month_2 (fun H locs hP hS => ?_)
  refine lv_iload_n hx hb dX9_month_5 rfl (lv_at hl 1 rfl) ?_
  refine lv_i2l hx hb dX9_month_6 rfl ?_
  refine lv_lconst (v := 0) hx hb dX9_month_7 (by decide) ?_
  refine lv_ldc2 hx hb hown hk1 dX9_month_8 ?_
  refine z_fini (w' := fun (u1 : Unit) => [(am 0, .inr (9, mf0 am)), (am 25, .inl (cI, 5, .inl (fun _ => 0)))]) (va_runS (As := [.long p1.toInt64, .long 0, .long 12]) (rest := []) ⟨hx, hb, hml, hown, hts⟩ (c_X9_in_184 l dC dI cB cI cJ cZ cP cQ H.size p1) (va_cwS 3 hts gX9_month_X9_in rfl rfl rfl (by decide +kernel) ⟨Nat.le_of_ble_eq_true rfl, Nat.le_of_ble_eq_true rfl⟩) (z_pS hK hP hD zX_nil [] (by decide) rfl) rfl rfl hl.1 rfl (lv_room (Nat.le_of_ble_eq_true rfl)) dX9_month_11 ⟨Nat.le_of_ble_eq_true rfl, Nat.le_of_ble_eq_true rfl⟩) hP hD hS hA [] [0, 1] [0, 1] rfl rfl (by decide) (by decide) (fun _ => rfl) (by decide) (fun r2 u1 H locs hp3 hP hD hS => ?_)
  have hP : va_P (dC, dI) vwCl [(am 0, .inr (9, mf0 am)), (am 25, .inl (cI, 5, .inl (fun _ => 0)))] H := hP
  have hD : va_D A [(am 0, .inr (9, mf0 am)), (am 25, .inl (cI, 5, .inl (fun _ => 0)))] := hD
  refine W.widen (k := 0) (n := 0) (by decide) (by decide) ?_
  rcases hp3 with ⟨rfl, f4⟩ | ⟨rfl, f5, f6⟩ | ⟨rfl, f7, f8⟩
  · refine lv_if_eq (tgt := 29) hx hb dX9_month_14 (by decide) (fun _ => ?_) (fun c => absurd (by decide) c)
    refine lv_iconst (v := (-1)) hx hb dX9_month_29 (by decide) ?_
    have hP9 := hP.sub (ws' := []) [] rfl
    have hD9 := hD.sub (ws' := []) [] (by decide) rfl
    exact z_iret () hx hb hr hlocks hK hP9 hD9 hS hAe hQ rfl (Or.inl (⟨rfl, f4⟩)) dX9_month_30
  · refine lv_if_eq (tgt := 29) hx hb dX9_month_14 (by decide) (fun _ => ?_) (fun c => absurd (by decide) c)
    refine lv_iconst (v := (-1)) hx hb dX9_month_29 (by decide) ?_
    have hP9 := hP.sub (ws' := []) [] rfl
    have hD9 := hD.sub (ws' := []) [] (by decide) rfl
    exact z_iret () hx hb hr hlocks hK hP9 hD9 hS hAe hQ rfl (Or.inr (Or.inl ⟨rfl, f5, f6⟩)) dX9_month_30
  · refine lv_if_eq (tgt := 29) hx hb dX9_month_14 (by decide) (fun c => absurd c (by decide)) (fun _ => ?_)
    refine lv_iload_n hx hb dX9_month_17 rfl (lv_at hl 2 rfl) ?_
    refine lv_i2l hx hb dX9_month_18 rfl ?_
    refine lv_lconst (v := 0) hx hb dX9_month_19 (by decide) ?_
    refine lv_ldc2 hx hb hown hk2 dX9_month_20 ?_
    refine z_fini (w' := fun (u9 : Unit) => [(am 0, .inr (9, mf0 am)), (am 25, .inl (cI, 5, .inl (fun _ => 0)))]) (va_runS (As := [.long p2.toInt64, .long 0, .long 3]) (rest := []) ⟨hx, hb, hml, hown, hts⟩ (c_X9_in_142 l dC dI cB cI cJ cZ cP cQ H.size p2) (va_cwS 3 hts gX9_month_X9_in rfl rfl rfl (by decide +kernel) ⟨Nat.le_of_ble_eq_true rfl, Nat.le_of_ble_eq_true rfl⟩) (z_pS hK hP hD zX_nil [] (by decide) rfl) rfl rfl hl.1 rfl (lv_room (Nat.le_of_ble_eq_true rfl)) dX9_month_23 ⟨Nat.le_of_ble_eq_true rfl, Nat.le_of_ble_eq_true rfl⟩) hP hD hS hA [] [0, 1] [0, 1] rfl rfl (by decide) (by decide) (fun _ => rfl) (by decide) (fun r10 u9 H locs hp11 hP hD hS => ?_)
    have hP : va_P (dC, dI) vwCl [(am 0, .inr (9, mf0 am)), (am 25, .inl (cI, 5, .inl (fun _ => 0)))] H := hP
    have hD : va_D A [(am 0, .inr (9, mf0 am)), (am 25, .inl (cI, 5, .inl (fun _ => 0)))] := hD
    refine W.widen (k := 0) (n := 0) (by decide) (by decide) ?_
    rcases hp11 with ⟨rfl, f12⟩ | ⟨rfl, f13, f14⟩ | ⟨rfl, f15, f16⟩
    · refine lv_if_ne (tgt := 31) hx hb dX9_month_26 (by decide) (fun c => absurd (by decide) c) (fun _ => ?_)
      refine lv_iconst (v := (-1)) hx hb dX9_month_29 (by decide) ?_
      have hP9 := hP.sub (ws' := []) [] rfl
      have hD9 := hD.sub (ws' := []) [] (by decide) rfl
      exact z_iret () hx hb hr hlocks hK hP9 hD9 hS hAe hQ rfl (Or.inr (Or.inr (Or.inl ⟨rfl, f7, f8, f12⟩))) dX9_month_30
    · refine lv_if_ne (tgt := 31) hx hb dX9_month_26 (by decide) (fun c => absurd (by decide) c) (fun _ => ?_)
      refine lv_iconst (v := (-1)) hx hb dX9_month_29 (by decide) ?_
      have hP9 := hP.sub (ws' := []) [] rfl
      have hD9 := hD.sub (ws' := []) [] (by decide) rfl
      exact z_iret () hx hb hr hlocks hK hP9 hD9 hS hAe hQ rfl (Or.inr (Or.inr (Or.inr (Or.inl ⟨rfl, f7, f8, f13, f14⟩)))) dX9_month_30
    · refine lv_if_ne (tgt := 31) hx hb dX9_month_26 (by decide) (fun _ => ?_) (fun c => absurd c (by decide))
      refine lv_iconst (v := 0) hx hb dX9_month_31 (by decide) ?_
      refine lv_istore_n (lv' := [(3, .int 0), (0, .ref (am 0)), (1, .int p1), (2, .int p2)]) hx hb dX9_month_32 rfl hl (by decide) rfl (fun ls hl => ?_)
      refine lv_iconst (v := 0) hx hb dX9_month_33 (by decide) ?_
      refine lv_istore (lv' := [(4, .int 0), (3, .int 0), (0, .ref (am 0)), (1, .int p1), (2, .int p2)]) hx hb dX9_month_34 hl (by decide) rfl (fun ls hl => ?_)
      refine lv_iload hx hb dX9_month_36 (lv_at hl 0 rfl) ?_
      refine lv_aload_n hx hb dX9_month_38 rfl (lv_at hl 2 rfl) ?_
      refine va_get (D := (dC, dI)) (ci := 9) (v := .ref (am 25)) (C := RX9) (T := TX9) (N := 60) hx hb hts hi9 hown hK hP 0 rfl rfl 35 (by decide) hk3 (fun _ h9 => h9) rfl dX9_month_39 ?_
      refine lv_iconst (v := 0) hx hb dX9_month_42 (by decide) ?_
      refine va_iald hx hb hK hP 1 1 rfl rfl (z_in (a := 0) (by decide) (by decide) (by decide)) dX9_month_43 ?_
      refine z_topi (y := 0) rfl ?_
      refine lv_icmp_ge (tgt := 126) hx hb dX9_month_44 (by decide) (fun _ => ?_) (fun c => absurd (by decide) c)
      refine lv_iload_n hx hb dX9_month_126 rfl (lv_at hl 1 rfl) ?_
      have hP9 := hP.sub (ws' := []) [] rfl
      have hD9 := hD.sub (ws' := []) [] (by decide) rfl
      exact z_iret () hx hb hr hlocks hK hP9 hD9 hS hAe hQ rfl (Or.inr (Or.inr (Or.inr (Or.inr ⟨rfl, f7, f8, f15, f16⟩)))) dX9_month_127
set_option maxHeartbeats 4000000 in
set_option maxRecDepth 100000 in
theorem c_X9_pushes_187 (l : Launch) (dC : Nat → ClassId) (dI : Nat → Nat → Nat) (cB cI cJ cZ cP cQ : ClassId) (am : Nat → Nat) (sz : Nat) : Met l yX9_pushes wsX9_pushes ({ frames := 0, cells := 0, slots := 0, locals := 0 } : Room) (zPc [.ref (am 0), .int 0] (dC, dI) (zT cB cI cJ cZ cP cQ) [(am 0, .inr (9, mf0 am)), (am 25, .inl (cI, 5, .inl (fun _ => 0)))] sz [] []) (va_Qv (fun _ => True) (zB (dC, dI) (zT cB cI cJ cZ cP cQ) (fun _ : Unit => [(am 0, .inr (9, mf0 am)), (am 25, .inl (cI, 5, .inl (fun _ => 0)))]) [(am 0, .inr (9, mf0 am)), (am 25, .inl (cI, 5, .inl (fun _ => 0)))] sz) (va_A [(am 0, .inr (9, mf0 am)), (am 25, .inl (cI, 5, .inl (fun _ => 0)))] sz)) 0 0 (va_A [(am 0, .inr (9, mf0 am)), (am 25, .inl (cI, 5, .inl (fun _ => 0)))] sz) := by
  refine z_enter (cc := cX9_pushes) (maxL := 3) (ret := none) (by decide) rfl (Nat.le_of_ble_eq_true rfl) ?_
  intro p e s m below meth c A ls Q H locs hx hb hr hml hown hts hlocks hin hK hP hD hA hX hS hAe hQ hl
  have hown : s.vm.findClass RX9 = some m.cls := hown
  have hi9 : ∀ w ∈ wsX90, w ∈ wsX9_pushes := fun w h => List.mem_cons_of_mem _ (List.mem_append_right _ h)
  have hk0 := hts (.fieldLink RX9 89 "MonthPushModel" "sheets" "[I") (by decide +kernel)
  have hk1 := hts (.fieldLink RX9 375 "MonthPushModel" "upTo" "I") (by decide +kernel)
  have hl : lv_has ls 3 [(0, .ref (am 0)), (1, .int 0)] := hl
  refine lv_iconst (v := 0) hx hb dX9_pushes_0 (by decide) ?_
  refine lv_istore_n (lv' := [(2, .int 0), (0, .ref (am 0)), (1, .int 0)]) hx hb dX9_pushes_1 rfl hl (by decide) rfl (fun ls hl => ?_)
  refine lv_iload_n hx hb dX9_pushes_2 rfl (lv_at hl 0 rfl) ?_
  refine lv_aload_n hx hb dX9_pushes_3 rfl (lv_at hl 1 rfl) ?_
  refine va_get (D := (dC, dI)) (ci := 9) (v := .ref (am 25)) (C := RX9) (T := TX9) (N := 60) hx hb hts hi9 hown hK hP 0 rfl rfl 35 (by decide) hk0 (fun _ h9 => h9) rfl dX9_pushes_4 ?_
  refine lv_iconst (v := 0) hx hb dX9_pushes_7 (by decide) ?_
  refine va_iald hx hb hK hP 1 1 rfl rfl (z_in (a := 0) (by decide) (by decide) (by decide)) dX9_pushes_8 ?_
  refine z_topi (y := 0) rfl ?_
  refine lv_icmp_ge (tgt := 45) hx hb dX9_pushes_9 (by decide) (fun _ => ?_) (fun c => absurd (by decide) c)
  refine lv_aload_n hx hb dX9_pushes_45 rfl (lv_at hl 1 rfl) ?_
  refine lv_aload_n hx hb dX9_pushes_46 rfl (lv_at hl 1 rfl) ?_
  refine va_get (D := (dC, dI)) (ci := 9) (v := .ref (am 25)) (C := RX9) (T := TX9) (N := 60) hx hb hts hi9 hown hK hP 0 rfl rfl 35 (by decide) hk0 (fun _ h9 => h9) rfl dX9_pushes_47 ?_
  refine lv_iconst (v := 0) hx hb dX9_pushes_50 (by decide) ?_
  refine va_iald hx hb hK hP 1 1 rfl rfl (z_in (a := 0) (by decide) (by decide) (by decide)) dX9_pushes_51 ?_
  refine z_topi (y := 0) rfl ?_
  refine z_put0 (D := (dC, dI)) (ci := 9) (v := .int 0) (ty := .int) (C := RX9) (T := TX9) (N := 60) hx hb hts hi9 tyX9 tyX9_ok nmX9 hown hK hP hD hS 0 rfl rfl 43 (by decide) hk1 (fun _ h9 => h9) rfl (by decide +kernel) rfl rfl rfl dX9_pushes_52 (fun H locs hP hS => ?_)
  exact z_vret () hx hb hr hlocks hK hP hD hS hAe hQ rfl trivial dX9_pushes_55
set_option maxHeartbeats 4000000 in
set_option maxRecDepth 100000 in
theorem c_X9_gathers_188 (l : Launch) (dC : Nat → ClassId) (dI : Nat → Nat → Nat) (cB cI cJ cZ cP cQ : ClassId) (am : Nat → Nat) (sz : Nat) : Met l yX9_gathers wsX9_gathers ({ frames := 0, cells := 0, slots := 0, locals := 0 } : Room) (zPc [.ref (am 0)] (dC, dI) (zT cB cI cJ cZ cP cQ) [(am 0, .inr (9, mf0 am))] sz [] []) (va_Qv (fun _ => True) (zB (dC, dI) (zT cB cI cJ cZ cP cQ) (fun _ : Unit => [(am 0, .inr (9, mf0 am))]) [(am 0, .inr (9, mf0 am))] sz) (va_A [(am 0, .inr (9, mf0 am))] sz)) 0 0 (va_A [(am 0, .inr (9, mf0 am))] sz) := by
  refine z_enter (cc := cX9_gathers) (maxL := 2) (ret := none) (by decide) rfl (Nat.le_of_ble_eq_true rfl) ?_
  intro p e s m below meth c A ls Q H locs hx hb hr hml hown hts hlocks hin hK hP hD hA hX hS hAe hQ hl
  have hown : s.vm.findClass RX9 = some m.cls := hown
  have hi9 : ∀ w ∈ wsX90, w ∈ wsX9_gathers := fun w h => List.mem_cons_of_mem _ (List.mem_append_right _ h)
  have hk0 := hts (.fieldLink RX9 378 "MonthPushModel" "n" "J") (by decide +kernel)
  have hk1 := hts (.fieldLink RX9 381 "MonthPushModel" "m" "J") (by decide +kernel)
  have hk2 := hts (.fieldLink RX9 384 "MonthPushModel" "s" "J") (by decide +kernel)
  have hk3 := hts (.fieldLink RX9 387 "MonthPushModel" "t" "J") (by decide +kernel)
  have hk4 := hts (.fieldLink RX9 390 "MonthPushModel" "w" "J") (by decide +kernel)
  have hk5 := hts (.fieldLink RX9 393 "MonthPushModel" "v" "J") (by decide +kernel)
  have hk6 := hts (.fieldLink RX9 396 "MonthPushModel" "square" "J") (by decide +kernel)
  have hk7 := hts (.fieldLink RX9 399 "MonthPushModel" "both" "J") (by decide +kernel)
  have hk8 := hts (.fieldLink RX9 375 "MonthPushModel" "upTo" "I") (by decide +kernel)
  have hl : lv_has ls 2 [(0, .ref (am 0))] := hl
  refine lv_aload_n hx hb dX9_gathers_0 rfl (lv_at hl 0 rfl) ?_
  refine lv_lconst (v := 0) hx hb dX9_gathers_1 (by decide) ?_
  refine z_put0 (D := (dC, dI)) (ci := 9) (v := .long 0) (ty := .long) (C := RX9) (T := TX9) (N := 60) hx hb hts hi9 tyX9 tyX9_ok nmX9 hown hK hP hD hS 0 rfl rfl 44 (by decide) hk0 (fun _ h9 => h9) rfl (by decide +kernel) rfl rfl rfl dX9_gathers_2 (fun H locs hP hS => ?_)
  refine lv_aload_n hx hb dX9_gathers_5 rfl (lv_at hl 0 rfl) ?_
  refine lv_lconst (v := 0) hx hb dX9_gathers_6 (by decide) ?_
  refine z_put0 (D := (dC, dI)) (ci := 9) (v := .long 0) (ty := .long) (C := RX9) (T := TX9) (N := 60) hx hb hts hi9 tyX9 tyX9_ok nmX9 hown hK hP hD hS 0 rfl rfl 45 (by decide) hk1 (fun _ h9 => h9) rfl (by decide +kernel) rfl rfl rfl dX9_gathers_7 (fun H locs hP hS => ?_)
  refine lv_aload_n hx hb dX9_gathers_10 rfl (lv_at hl 0 rfl) ?_
  refine lv_lconst (v := 0) hx hb dX9_gathers_11 (by decide) ?_
  refine z_put0 (D := (dC, dI)) (ci := 9) (v := .long 0) (ty := .long) (C := RX9) (T := TX9) (N := 60) hx hb hts hi9 tyX9 tyX9_ok nmX9 hown hK hP hD hS 0 rfl rfl 46 (by decide) hk2 (fun _ h9 => h9) rfl (by decide +kernel) rfl rfl rfl dX9_gathers_12 (fun H locs hP hS => ?_)
  refine lv_aload_n hx hb dX9_gathers_15 rfl (lv_at hl 0 rfl) ?_
  refine lv_lconst (v := 0) hx hb dX9_gathers_16 (by decide) ?_
  refine z_put0 (D := (dC, dI)) (ci := 9) (v := .long 0) (ty := .long) (C := RX9) (T := TX9) (N := 60) hx hb hts hi9 tyX9 tyX9_ok nmX9 hown hK hP hD hS 0 rfl rfl 47 (by decide) hk3 (fun _ h9 => h9) rfl (by decide +kernel) rfl rfl rfl dX9_gathers_17 (fun H locs hP hS => ?_)
  refine lv_aload_n hx hb dX9_gathers_20 rfl (lv_at hl 0 rfl) ?_
  refine lv_lconst (v := 0) hx hb dX9_gathers_21 (by decide) ?_
  refine z_put0 (D := (dC, dI)) (ci := 9) (v := .long 0) (ty := .long) (C := RX9) (T := TX9) (N := 60) hx hb hts hi9 tyX9 tyX9_ok nmX9 hown hK hP hD hS 0 rfl rfl 48 (by decide) hk4 (fun _ h9 => h9) rfl (by decide +kernel) rfl rfl rfl dX9_gathers_22 (fun H locs hP hS => ?_)
  refine lv_aload_n hx hb dX9_gathers_25 rfl (lv_at hl 0 rfl) ?_
  refine lv_lconst (v := 0) hx hb dX9_gathers_26 (by decide) ?_
  refine z_put0 (D := (dC, dI)) (ci := 9) (v := .long 0) (ty := .long) (C := RX9) (T := TX9) (N := 60) hx hb hts hi9 tyX9 tyX9_ok nmX9 hown hK hP hD hS 0 rfl rfl 49 (by decide) hk5 (fun _ h9 => h9) rfl (by decide +kernel) rfl rfl rfl dX9_gathers_27 (fun H locs hP hS => ?_)
  refine lv_aload_n hx hb dX9_gathers_30 rfl (lv_at hl 0 rfl) ?_
  refine lv_lconst (v := 0) hx hb dX9_gathers_31 (by decide) ?_
  refine z_put0 (D := (dC, dI)) (ci := 9) (v := .long 0) (ty := .long) (C := RX9) (T := TX9) (N := 60) hx hb hts hi9 tyX9 tyX9_ok nmX9 hown hK hP hD hS 0 rfl rfl 50 (by decide) hk6 (fun _ h9 => h9) rfl (by decide +kernel) rfl rfl rfl dX9_gathers_32 (fun H locs hP hS => ?_)
  refine lv_aload_n hx hb dX9_gathers_35 rfl (lv_at hl 0 rfl) ?_
  refine lv_lconst (v := 0) hx hb dX9_gathers_36 (by decide) ?_
  refine z_put0 (D := (dC, dI)) (ci := 9) (v := .long 0) (ty := .long) (C := RX9) (T := TX9) (N := 60) hx hb hts hi9 tyX9 tyX9_ok nmX9 hown hK hP hD hS 0 rfl rfl 51 (by decide) hk7 (fun _ h9 => h9) rfl (by decide +kernel) rfl rfl rfl dX9_gathers_37 (fun H locs hP hS => ?_)
  refine lv_iconst (v := 0) hx hb dX9_gathers_40 (by decide) ?_
  refine lv_istore_n (lv' := [(1, .int 0), (0, .ref (am 0))]) hx hb dX9_gathers_41 rfl hl (by decide) rfl (fun ls hl => ?_)
  refine lv_iload_n hx hb dX9_gathers_42 rfl (lv_at hl 0 rfl) ?_
  refine lv_aload_n hx hb dX9_gathers_43 rfl (lv_at hl 1 rfl) ?_
  refine va_get (D := (dC, dI)) (ci := 9) (v := .int 0) (C := RX9) (T := TX9) (N := 60) hx hb hts hi9 hown hK hP 0 rfl rfl 43 (by decide) hk8 (fun _ h9 => h9) rfl dX9_gathers_44 ?_
  refine lv_icmp_ge (tgt := 200) hx hb dX9_gathers_47 (by decide) (fun _ => ?_) (fun c => absurd (by decide) c)
  exact z_vret () hx hb hr hlocks hK hP hD hS hAe hQ rfl trivial dX9_gathers_200
set_option maxHeartbeats 4000000 in
set_option maxRecDepth 100000 in
theorem c_X9_ratio_189 (l : Launch) (dC : Nat → ClassId) (dI : Nat → Nat → Nat) (cB cI cJ cZ cP cQ : ClassId) (am : Nat → Nat) (sz : Nat) : Met l yX9_ratio wsX9_ratio ({ frames := 0, cells := 0, slots := 0, locals := 0 } : Room) (zPc [.ref (am 0), .long 0, .long 0] (dC, dI) (zT cB cI cJ cZ cP cQ) [(am 0, .inr (9, mf0 am))] sz [] []) (va_Ql (fun r _ => (fun r => r = (-2000000000)) r) (zB (dC, dI) (zT cB cI cJ cZ cP cQ) (fun _ : Unit => [(am 0, .inr (9, mf0 am))]) [(am 0, .inr (9, mf0 am))] sz) (va_A [(am 0, .inr (9, mf0 am))] sz)) 0 0 (va_A [(am 0, .inr (9, mf0 am))] sz) := by
  refine z_enter (cc := cX9_ratio) (maxL := 5) (ret := (some .long)) (by decide) rfl (Nat.le_of_ble_eq_true rfl) ?_
  intro p e s m below meth c A ls Q H locs hx hb hr hml hown hts hlocks hin hK hP hD hA hX hS hAe hQ hl
  have hown : s.vm.findClass RX9 = some m.cls := hown
  have hi9 : ∀ w ∈ wsX90, w ∈ wsX9_ratio := fun w h => List.mem_cons_of_mem _ (List.mem_append_right _ h)
  have hk0 := hts (.fieldLink RX9 402 "MonthPushModel" "isTold" "Z") (by decide +kernel)
  have hk1 := hts (.constantLong RX9 408 (-2000000000)) (by decide +kernel)
  have hl : lv_has ls 5 [(0, .ref (am 0)), (1, .long 0), (3, .long 0)] := hl
  refine lv_aload_n hx hb dX9_ratio_0 rfl (lv_at hl 0 rfl) ?_
  refine lv_lload_n hx hb dX9_ratio_1 rfl (lv_at hl 2 rfl) ?_
  refine lv_lconst (v := 0) hx hb dX9_ratio_2 (by decide) ?_
  refine W.lcmp hx hb dX9_ratio_3 ?_
  refine z_topi (y := 0) (by decide +kernel) ?_
  refine lv_if_eq (tgt := 11) hx hb dX9_ratio_4 (by decide) (fun _ => ?_) (fun c => absurd (by decide) c)
  refine lv_iconst (v := 0) hx hb dX9_ratio_11 (by decide) ?_
  refine z_put0 (D := (dC, dI)) (ci := 9) (v := .int 0) (ty := .boolean) (C := RX9) (T := TX9) (N := 60) hx hb hts hi9 tyX9 tyX9_ok nmX9 hown hK hP hD hS 0 rfl rfl 53 (by decide) hk0 (fun _ h9 => h9) rfl (by decide +kernel) rfl rfl rfl dX9_ratio_12 (fun H locs hP hS => ?_)
  refine lv_aload_n hx hb dX9_ratio_15 rfl (lv_at hl 0 rfl) ?_
  refine va_get (D := (dC, dI)) (ci := 9) (v := .int 0) (C := RX9) (T := TX9) (N := 60) hx hb hts hi9 hown hK hP 0 rfl rfl 53 (by decide) hk0 (fun _ h9 => h9) rfl dX9_ratio_16 ?_
  refine lv_if_eq (tgt := 32) hx hb dX9_ratio_19 (by decide) (fun _ => ?_) (fun c => absurd (by decide) c)
  refine lv_ldc2 hx hb hown hk1 dX9_ratio_32 ?_
  exact z_lret () hx hb hr hlocks hK hP hD hS hAe hQ rfl rfl dX9_ratio_35
set_option maxHeartbeats 4000000 in
set_option maxRecDepth 100000 in
theorem c_X9_plainOf_189 (l : Launch) (dC : Nat → ClassId) (dI : Nat → Nat → Nat) (cB cI cJ cZ cP cQ : ClassId) (am : Nat → Nat) (sz : Nat) : Met l yX9_plainOf wsX9_plainOf ({ frames := 1, cells := 0, slots := 0, locals := 24 } : Room) (zPc [.ref (am 0)] (dC, dI) (zT cB cI cJ cZ cP cQ) [(am 0, .inr (9, mf0 am)), (am 25, .inl (cI, 5, .inl (fun _ => 0)))] sz [] []) (va_Ql (fun r _ => (fun r => r = (-2000000000)) r) (zB (dC, dI) (zT cB cI cJ cZ cP cQ) (fun _ : Unit => [(am 0, .inr (9, mf0 am)), (am 25, .inl (cI, 5, .inl (fun _ => 0)))]) [(am 0, .inr (9, mf0 am)), (am 25, .inl (cI, 5, .inl (fun _ => 0)))] sz) (va_A [(am 0, .inr (9, mf0 am)), (am 25, .inl (cI, 5, .inl (fun _ => 0)))] sz)) 0 0 (va_A [(am 0, .inr (9, mf0 am)), (am 25, .inl (cI, 5, .inl (fun _ => 0)))] sz) := by
  refine z_enter (cc := cX9_plainOf) (maxL := 1) (ret := (some .long)) (by decide) rfl (Nat.le_of_ble_eq_true rfl) ?_
  intro p e s m below meth c A ls Q H locs hx hb hr hml hown hts hlocks hin hK hP hD hA hX hS hAe hQ hl
  have hown : s.vm.findClass RX9 = some m.cls := hown
  have hi9 : ∀ w ∈ wsX90, w ∈ wsX9_plainOf := fun w h => List.mem_cons_of_mem _ (List.mem_append_right _ h)
  have hk0 := hts (.fieldLink RX9 381 "MonthPushModel" "m" "J") (by decide +kernel)
  have hk1 := hts (.fieldLink RX9 399 "MonthPushModel" "both" "J") (by decide +kernel)
  have hk2 := hts (.fieldLink RX9 387 "MonthPushModel" "t" "J") (by decide +kernel)
  have hk3 := hts (.fieldLink RX9 393 "MonthPushModel" "v" "J") (by decide +kernel)
  have hk4 := hts (.fieldLink RX9 396 "MonthPushModel" "square" "J") (by decide +kernel)
  have hl : lv_has ls 1 [(0, .ref (am 0))] := hl
  refine lv_aload_n hx hb dX9_plainOf_0 rfl (lv_at hl 0 rfl) ?_
  refine lv_iconst (v := 0) hx hb dX9_plainOf_1 (by decide) ?_
  refine z_finv (w' := fun (u1 : Unit) => [(am 0, .inr (9, mf0 am)), (am 25, .inl (cI, 5, .inl (fun _ => 0)))]) (va_runV (As := [.int 0]) (rest := []) ⟨hx, hb, hml, hown, hts⟩ (c_X9_pushes_187 l dC dI cB cI cJ cZ cP cQ am H.size) (cwV 1 hts gX9_plainOf_X9_pushes rfl rfl rfl (by decide +kernel) ⟨Nat.le_of_ble_eq_true rfl, Nat.le_of_ble_eq_true rfl⟩) (z_pV (ci := 9) hK hP hD zX_nil [0, 1] (by decide) rfl rfl 0 rfl) rfl rfl hl.1 rfl (lv_room (Nat.le_of_ble_eq_true rfl)) dX9_plainOf_2 ⟨Nat.le_of_ble_eq_true rfl, Nat.le_of_ble_eq_true rfl⟩) hP hD hS hA [0, 1] [] [0, 1] rfl rfl (by decide) (by decide) (fun _ => rfl) (by decide) (fun u1 H locs hp3 hP hD hS => ?_)
  have hP : va_P (dC, dI) vwCl [(am 0, .inr (9, mf0 am)), (am 25, .inl (cI, 5, .inl (fun _ => 0)))] H := hP
  have hD : va_D A [(am 0, .inr (9, mf0 am)), (am 25, .inl (cI, 5, .inl (fun _ => 0)))] := hD
  refine W.widen (k := 0) (n := 0) (by decide) (by decide) ?_
  refine lv_aload_n hx hb dX9_plainOf_5 rfl (lv_at hl 0 rfl) ?_
  refine z_finv (w' := fun (u4 : Unit) => [(am 0, .inr (9, mf0 am)), (am 25, .inl (cI, 5, .inl (fun _ => 0)))]) (va_runV (As := []) (rest := []) ⟨hx, hb, hml, hown, hts⟩ (c_X9_gathers_188 l dC dI cB cI cJ cZ cP cQ am H.size) (cwV 0 hts gX9_plainOf_X9_gathers rfl rfl rfl (by decide +kernel) ⟨Nat.le_of_ble_eq_true rfl, Nat.le_of_ble_eq_true rfl⟩) (z_pV (ci := 9) hK hP hD zX_nil [0] (by decide) rfl rfl 0 rfl) rfl rfl hl.1 rfl (lv_room (Nat.le_of_ble_eq_true rfl)) dX9_plainOf_6 ⟨Nat.le_of_ble_eq_true rfl, Nat.le_of_ble_eq_true rfl⟩) hP hD hS hA [0] [1] [1, 0] rfl rfl (by decide) (by decide) (fun _ => rfl) (by decide) (fun u4 H locs hp6 hP hD hS => ?_)
  have hP : va_P (dC, dI) vwCl [(am 0, .inr (9, mf0 am)), (am 25, .inl (cI, 5, .inl (fun _ => 0)))] H := hP
  have hD : va_D A [(am 0, .inr (9, mf0 am)), (am 25, .inl (cI, 5, .inl (fun _ => 0)))] := hD
  refine W.widen (k := 0) (n := 0) (by decide) (by decide) ?_
  refine lv_aload_n hx hb dX9_plainOf_9 rfl (lv_at hl 0 rfl) ?_
  refine lv_aload_n hx hb dX9_plainOf_10 rfl (lv_at hl 0 rfl) ?_
  refine va_get (D := (dC, dI)) (ci := 9) (v := .long 0) (C := RX9) (T := TX9) (N := 60) hx hb hts hi9 hown hK hP 0 rfl rfl 45 (by decide) hk0 (fun _ h9 => h9) rfl dX9_plainOf_11 ?_
  refine lv_aload_n hx hb dX9_plainOf_14 rfl (lv_at hl 0 rfl) ?_
  refine va_get (D := (dC, dI)) (ci := 9) (v := .long 0) (C := RX9) (T := TX9) (N := 60) hx hb hts hi9 hown hK hP 0 rfl rfl 51 (by decide) hk1 (fun _ h9 => h9) rfl dX9_plainOf_15 ?_
  refine lv_lmul hx hb dX9_plainOf_18 ?_
  refine z_topl (y := 0) (by decide +kernel) ?_
  refine lv_aload_n hx hb dX9_plainOf_19 rfl (lv_at hl 0 rfl) ?_
  refine va_get (D := (dC, dI)) (ci := 9) (v := .long 0) (C := RX9) (T := TX9) (N := 60) hx hb hts hi9 hown hK hP 0 rfl rfl 47 (by decide) hk2 (fun _ h9 => h9) rfl dX9_plainOf_20 ?_
  refine lv_aload_n hx hb dX9_plainOf_23 rfl (lv_at hl 0 rfl) ?_
  refine va_get (D := (dC, dI)) (ci := 9) (v := .long 0) (C := RX9) (T := TX9) (N := 60) hx hb hts hi9 hown hK hP 0 rfl rfl 49 (by decide) hk3 (fun _ h9 => h9) rfl dX9_plainOf_24 ?_
  refine lv_lmul hx hb dX9_plainOf_27 ?_
  refine z_topl (y := 0) (by decide +kernel) ?_
  refine lv_lsub hx hb dX9_plainOf_28 ?_
  refine z_topl (y := 0) (by decide +kernel) ?_
  refine lv_aload_n hx hb dX9_plainOf_29 rfl (lv_at hl 0 rfl) ?_
  refine va_get (D := (dC, dI)) (ci := 9) (v := .long 0) (C := RX9) (T := TX9) (N := 60) hx hb hts hi9 hown hK hP 0 rfl rfl 45 (by decide) hk0 (fun _ h9 => h9) rfl dX9_plainOf_30 ?_
  refine lv_aload_n hx hb dX9_plainOf_33 rfl (lv_at hl 0 rfl) ?_
  refine va_get (D := (dC, dI)) (ci := 9) (v := .long 0) (C := RX9) (T := TX9) (N := 60) hx hb hts hi9 hown hK hP 0 rfl rfl 50 (by decide) hk4 (fun _ h9 => h9) rfl dX9_plainOf_34 ?_
  refine lv_lmul hx hb dX9_plainOf_37 ?_
  refine z_topl (y := 0) (by decide +kernel) ?_
  refine lv_aload_n hx hb dX9_plainOf_38 rfl (lv_at hl 0 rfl) ?_
  refine va_get (D := (dC, dI)) (ci := 9) (v := .long 0) (C := RX9) (T := TX9) (N := 60) hx hb hts hi9 hown hK hP 0 rfl rfl 47 (by decide) hk2 (fun _ h9 => h9) rfl dX9_plainOf_39 ?_
  refine lv_aload_n hx hb dX9_plainOf_42 rfl (lv_at hl 0 rfl) ?_
  refine va_get (D := (dC, dI)) (ci := 9) (v := .long 0) (C := RX9) (T := TX9) (N := 60) hx hb hts hi9 hown hK hP 0 rfl rfl 47 (by decide) hk2 (fun _ h9 => h9) rfl dX9_plainOf_43 ?_
  refine lv_lmul hx hb dX9_plainOf_46 ?_
  refine z_topl (y := 0) (by decide +kernel) ?_
  refine lv_lsub hx hb dX9_plainOf_47 ?_
  refine z_topl (y := 0) (by decide +kernel) ?_
  refine z_finl (w' := fun (u7 : Unit) => [(am 0, .inr (9, mf0 am)), (am 25, .inl (cI, 5, .inl (fun _ => 0)))]) (va_runV (As := [.long 0, .long 0]) (rest := []) ⟨hx, hb, hml, hown, hts⟩ (c_X9_ratio_189 l dC dI cB cI cJ cZ cP cQ am H.size) (cwV 2 hts gX9_plainOf_X9_ratio rfl rfl rfl (by decide +kernel) ⟨Nat.le_of_ble_eq_true rfl, Nat.le_of_ble_eq_true rfl⟩) (z_pV (ci := 9) hK hP hD zX_nil [0] (by decide) rfl rfl 0 rfl) rfl rfl hl.1 rfl (lv_room (Nat.le_of_ble_eq_true rfl)) dX9_plainOf_48 ⟨Nat.le_of_ble_eq_true rfl, Nat.le_of_ble_eq_true rfl⟩) hP hD hS hA [0] [1] [1, 0] rfl rfl (by decide) (by decide) (fun _ => rfl) (by decide) (fun r8 u7 H locs hp9 hP hD hS => ?_)
  have hP : va_P (dC, dI) vwCl [(am 0, .inr (9, mf0 am)), (am 25, .inl (cI, 5, .inl (fun _ => 0)))] H := hP
  have hD : va_D A [(am 0, .inr (9, mf0 am)), (am 25, .inl (cI, 5, .inl (fun _ => 0)))] := hD
  refine W.widen (k := 0) (n := 0) (by decide) (by decide) ?_
  obtain rfl : r8 = (-2000000000) := hp9
  exact z_lret () hx hb hr hlocks hK hP hD hS hAe hQ rfl rfl dX9_plainOf_51
set_option maxHeartbeats 4000000 in
set_option maxRecDepth 100000 in
theorem c_X9_plain_189 (l : Launch) (dC : Nat → ClassId) (dI : Nat → Nat → Nat) (cB cI cJ cZ cP cQ : ClassId) (am : Nat → Nat) (sz : Nat) : Met l yX9_plain wsX9_plain ({ frames := 2, cells := 0, slots := 0, locals := 44 } : Room) (zPc [.ref (am 0)] (dC, dI) (zT cB cI cJ cZ cP cQ) [(am 0, .inr (9, mf0 am)), (am 25, .inl (cI, 5, .inl (fun _ => 0)))] sz [] []) (va_Ql (fun r _ => (fun r => r = (-2000000000)) r) (zB (dC, dI) (zT cB cI cJ cZ cP cQ) (fun _ : Unit => []) [(am 0, .inr (9, mf0 am)), (am 25, .inl (cI, 5, .inl (fun _ => 0)))] sz) (va_A [(am 0, .inr (9, mf0 am)), (am 25, .inl (cI, 5, .inl (fun _ => 0)))] sz)) 0 0 (va_A [(am 0, .inr (9, mf0 am)), (am 25, .inl (cI, 5, .inl (fun _ => 0)))] sz) := by
  refine z_enter (cc := cX9_plain) (maxL := 1) (ret := (some .long)) (by decide) rfl (Nat.le_of_ble_eq_true rfl) ?_
  intro p e s m below meth c A ls Q H locs hx hb hr hml hown hts hlocks hin hK hP hD hA hX hS hAe hQ hl
  have hown : s.vm.findClass RX9 = some m.cls := hown
  have hi9 : ∀ w ∈ wsX90, w ∈ wsX9_plain := fun w h => List.mem_cons_of_mem _ (List.mem_append_right _ h)
  have hk0 := hts (.fieldLink RX9 125 "MonthPushModel" "thrown" "I") (by decide +kernel)
  have hl : lv_has ls 1 [(0, .ref (am 0))] := hl
  refine lv_aload_n hx hb dX9_plain_0 rfl (lv_at hl 0 rfl) ?_
  refine lv_iconst (v := 0) hx hb dX9_plain_1 (by decide) ?_
  refine z_put0 (D := (dC, dI)) (ci := 9) (v := .int 0) (ty := .int) (C := RX9) (T := TX9) (N := 60) hx hb hts hi9 tyX9 tyX9_ok nmX9 hown hK hP hD hS 0 rfl rfl 0 (by decide) hk0 (fun _ h9 => h9) rfl (by decide +kernel) rfl rfl rfl dX9_plain_2 (fun H locs hP hS => ?_)
  refine lv_aload_n hx hb dX9_plain_5 rfl (lv_at hl 0 rfl) ?_
  refine z_finl (w' := fun (u1 : Unit) => [(am 0, .inr (9, mf0 am)), (am 25, .inl (cI, 5, .inl (fun _ => 0)))]) (va_runV (As := []) (rest := []) ⟨hx, hb, hml, hown, hts⟩ (c_X9_plainOf_189 l dC dI cB cI cJ cZ cP cQ am H.size) (cwV 0 hts gX9_plain_X9_plainOf rfl rfl rfl (by decide +kernel) ⟨Nat.le_of_ble_eq_true rfl, Nat.le_of_ble_eq_true rfl⟩) (z_pV (ci := 9) hK hP hD zX_nil [0, 1] (by decide) rfl rfl 0 rfl) rfl rfl hl.1 rfl (lv_room (Nat.le_of_ble_eq_true rfl)) dX9_plain_6 ⟨Nat.le_of_ble_eq_true rfl, Nat.le_of_ble_eq_true rfl⟩) hP hD hS hA [0, 1] [] [0, 1] rfl rfl (by decide) (by decide) (fun _ => rfl) (by decide) (fun r2 u1 H locs hp3 hP hD hS => ?_)
  have hP : va_P (dC, dI) vwCl [(am 0, .inr (9, mf0 am)), (am 25, .inl (cI, 5, .inl (fun _ => 0)))] H := hP
  have hD : va_D A [(am 0, .inr (9, mf0 am)), (am 25, .inl (cI, 5, .inl (fun _ => 0)))] := hD
  refine W.widen (k := 0) (n := 0) (by decide) (by decide) ?_
  obtain rfl : r2 = (-2000000000) := hp3
  have hP9 := hP.sub (ws' := []) [] rfl
  have hD9 := hD.sub (ws' := []) [] (by decide) rfl
  exact z_lret () hx hb hr hlocks hK hP9 hD9 hS hAe hQ rfl rfl dX9_plain_9
set_option maxHeartbeats 4000000 in
set_option maxRecDepth 100000 in
theorem c_X9_in_193 (l : Launch) (dC : Nat → ClassId) (dI : Nat → Nat → Nat) (cB cI cJ cZ cP cQ : ClassId) (sz : Nat) (p0 : Int32) : Met l yX9_in wsX9_in ({ frames := 0, cells := 0, slots := 0, locals := 0 } : Room) (zPc [.long p0.toInt64, .long 1, .long 4094] (dC, dI) (zT cB cI cJ cZ cP cQ) [] sz [] []) (va_Qi (fun r _ => (fun r => (r = 0 ∧ p0.toInt < 1) ∨ (r = 0 ∧ 1 ≤ p0.toInt ∧ 4094 < p0.toInt) ∨ (r = 1 ∧ 1 ≤ p0.toInt ∧ p0.toInt ≤ 4094)) r) (zB (dC, dI) (zT cB cI cJ cZ cP cQ) (fun _ : Unit => []) [] sz) (va_A [] sz)) 0 0 (va_A [] sz) := by
  refine z_enter (cc := cX9_in) (maxL := 6) (ret := (some .boolean)) (by decide) rfl (Nat.le_of_ble_eq_true rfl) ?_
  intro p e s m below meth c A ls Q H locs hx hb hr hml hown hts hlocks hin hK hP hD hA hX hS hAe hQ hl
  have hown : s.vm.findClass RX9 = some m.cls := hown
  have hl : lv_has ls 6 [(0, .long p0.toInt64), (2, .long 1), (4, .long 4094)] := hl
  refine lv_lload_n hx hb dX9_in_0 rfl (lv_at hl 0 rfl) ?_
  refine lv_lload_n hx hb dX9_in_1 rfl (lv_at hl 1 rfl) ?_
  refine W.lcmp hx hb dX9_in_2 ?_
  refine lv_if_lt (tgt := 17) hx hb dX9_in_3 (by decide) (fun c_1 => ?_) (fun c_1 => ?_)
  · have f2 : p0.toInt < 1 := z_llt (z_i2l p0) (by decide) c_1
    refine lv_iconst (v := 0) hx hb dX9_in_17 (by decide) ?_
    exact z_zret () hx hb hr hlocks hK hP hD hS hAe hQ rfl (Or.inl (⟨rfl, f2⟩)) (by decide) dX9_in_18
  · have f2 : 1 ≤ p0.toInt := z_lnlt (z_i2l p0) (by decide) c_1
    refine lv_lload_n hx hb dX9_in_6 rfl (lv_at hl 0 rfl) ?_
    refine lv_lload hx hb dX9_in_7 (lv_at hl 2 rfl) ?_
    refine W.lcmp hx hb dX9_in_9 ?_
    refine lv_if_gt (tgt := 17) hx hb dX9_in_10 (by decide) (fun c_3 => ?_) (fun c_3 => ?_)
    · have f4 : 4094 < p0.toInt := z_lgt (z_i2l p0) (by decide) c_3
      refine lv_iconst (v := 0) hx hb dX9_in_17 (by decide) ?_
      exact z_zret () hx hb hr hlocks hK hP hD hS hAe hQ rfl (Or.inr (Or.inl ⟨rfl, f2, f4⟩)) (by decide) dX9_in_18
    · have f4 : p0.toInt ≤ 4094 := z_lngt (z_i2l p0) (by decide) c_3
      refine lv_iconst (v := 1) hx hb dX9_in_13 (by decide) ?_
      refine lv_goto (tgt := 18) hx hb dX9_in_14 (by decide) ?_
      exact z_zret () hx hb hr hlocks hK hP hD hS hAe hQ rfl (Or.inr (Or.inr ⟨rfl, f2, f4⟩)) (by decide) dX9_in_18
set_option maxHeartbeats 4000000 in
set_option maxRecDepth 100000 in
theorem c_X9_isPush_193 (l : Launch) (dC : Nat → ClassId) (dI : Nat → Nat → Nat) (cB cI cJ cZ cP cQ : ClassId) (sz : Nat) (p0 : Int32) : Met l yX9_isPush wsX9_isPush ({ frames := 1, cells := 0, slots := 0, locals := 25 } : Room) (zPc [.int p0] (dC, dI) (zT cB cI cJ cZ cP cQ) [] sz [] []) (va_Qi (fun r _ => (fun r => (r = 0 ∧ p0.toInt < 1) ∨ (r = 0 ∧ 1 ≤ p0.toInt ∧ 4094 < p0.toInt) ∨ (r = 1 ∧ 1 ≤ p0.toInt ∧ p0.toInt ≤ 4094)) r) (zB (dC, dI) (zT cB cI cJ cZ cP cQ) (fun _ : Unit => []) [] sz) (va_A [] sz)) 0 0 (va_A [] sz) := by
  refine z_enter (cc := cX9_isPush) (maxL := 1) (ret := (some .boolean)) (by decide) rfl (Nat.le_of_ble_eq_true rfl) ?_
  intro p e s m below meth c A ls Q H locs hx hb hr hml hown hts hlocks hin hK hP hD hA hX hS hAe hQ hl
  have hown : s.vm.findClass RX9 = some m.cls := hown
  have hk0 := hts (.constantLong RX9 373 4094) (by decide +kernel)
  have hl : lv_has ls 1 [(0, .int p0)] := hl
  refine lv_iload_n hx hb dX9_isPush_0 rfl (lv_at hl 0 rfl) ?_
  refine lv_i2l hx hb dX9_isPush_1 rfl ?_
  refine lv_lconst (v := 1) hx hb dX9_isPush_2 (by decide) ?_
  refine lv_ldc2 hx hb hown hk0 dX9_isPush_3 ?_
  refine z_fini (w' := fun (u1 : Unit) => []) (va_runS (As := [.long p0.toInt64, .long 1, .long 4094]) (rest := []) ⟨hx, hb, hml, hown, hts⟩ (c_X9_in_193 l dC dI cB cI cJ cZ cP cQ H.size p0) (va_cwS 3 hts gX9_isPush_X9_in rfl rfl rfl (by decide +kernel) ⟨Nat.le_of_ble_eq_true rfl, Nat.le_of_ble_eq_true rfl⟩) (z_pS hK hP hD zX_nil [] (by decide) rfl) rfl rfl hl.1 rfl (lv_room (Nat.le_of_ble_eq_true rfl)) dX9_isPush_6 ⟨Nat.le_of_ble_eq_true rfl, Nat.le_of_ble_eq_true rfl⟩) hP hD hS hA [] [] [] rfl rfl (by decide) (by decide) (fun _ => rfl) (by decide) (fun r2 u1 H locs hp3 hP hD hS => ?_)
  have hP : va_P (dC, dI) vwCl [] H := hP
  have hD : va_D A [] := hD
  refine W.widen (k := 0) (n := 0) (by decide) (by decide) ?_
  rcases hp3 with ⟨rfl, f4⟩ | ⟨rfl, f5, f6⟩ | ⟨rfl, f7, f8⟩
  · exact z_zret () hx hb hr hlocks hK hP hD hS hAe hQ rfl (Or.inl (⟨rfl, f4⟩)) (by decide) dX9_isPush_9
  · exact z_zret () hx hb hr hlocks hK hP hD hS hAe hQ rfl (Or.inr (Or.inl ⟨rfl, f5, f6⟩)) (by decide) dX9_isPush_9
  · exact z_zret () hx hb hr hlocks hK hP hD hS hAe hQ rfl (Or.inr (Or.inr ⟨rfl, f7, f8⟩)) (by decide) dX9_isPush_9
set_option maxHeartbeats 4000000 in
set_option maxRecDepth 100000 in
theorem c_X9_untold_194 (l : Launch) (dC : Nat → ClassId) (dI : Nat → Nat → Nat) (cB cI cJ cZ cP cQ : ClassId) (am : Nat → Nat) (sz : Nat) : Met l yX9_untold wsX9_untold ({ frames := 0, cells := 0, slots := 0, locals := 0 } : Room) (zPc [.ref (am 0)] (dC, dI) (zT cB cI cJ cZ cP cQ) [(am 0, .inr (9, mf0 am))] sz [] []) (va_Ql (fun r _ => (fun r => r = (-2000000000)) r) (zB (dC, dI) (zT cB cI cJ cZ cP cQ) (fun _ : Unit => [(am 0, .inr (9, mf0 am))]) [(am 0, .inr (9, mf0 am))] sz) (va_A [(am 0, .inr (9, mf0 am))] sz)) 0 0 (va_A [(am 0, .inr (9, mf0 am))] sz) := by
  refine z_enter (cc := cX9_untold) (maxL := 1) (ret := (some .long)) (by decide) rfl (Nat.le_of_ble_eq_true rfl) ?_
  intro p e s m below meth c A ls Q H locs hx hb hr hml hown hts hlocks hin hK hP hD hA hX hS hAe hQ hl
  have hown : s.vm.findClass RX9 = some m.cls := hown
  have hi9 : ∀ w ∈ wsX90, w ∈ wsX9_untold := fun w h => List.mem_cons_of_mem _ (List.mem_append_right _ h)
  have hk0 := hts (.fieldLink RX9 402 "MonthPushModel" "isTold" "Z") (by decide +kernel)
  have hk1 := hts (.constantLong RX9 408 (-2000000000)) (by decide +kernel)
  have hl : lv_has ls 1 [(0, .ref (am 0))] := hl
  refine lv_aload_n hx hb dX9_untold_0 rfl (lv_at hl 0 rfl) ?_
  refine lv_iconst (v := 0) hx hb dX9_untold_1 (by decide) ?_
  refine z_put0 (D := (dC, dI)) (ci := 9) (v := .int 0) (ty := .boolean) (C := RX9) (T := TX9) (N := 60) hx hb hts hi9 tyX9 tyX9_ok nmX9 hown hK hP hD hS 0 rfl rfl 53 (by decide) hk0 (fun _ h9 => h9) rfl (by decide +kernel) rfl rfl rfl dX9_untold_2 (fun H locs hP hS => ?_)
  refine lv_ldc2 hx hb hown hk1 dX9_untold_5 ?_
  exact z_lret () hx hb hr hlocks hK hP hD hS hAe hQ rfl rfl dX9_untold_8
set_option maxHeartbeats 4000000 in
set_option maxRecDepth 100000 in
theorem c_X9_pushes_195 (l : Launch) (dC : Nat → ClassId) (dI : Nat → Nat → Nat) (cB cI cJ cZ cP cQ : ClassId) (am : Nat → Nat) (sz : Nat) (p1 : Int32) : Met l yX9_pushes wsX9_pushes ({ frames := 0, cells := 0, slots := 0, locals := 0 } : Room) (zPc [.ref (am 0), .int p1] (dC, dI) (zT cB cI cJ cZ cP cQ) [(am 0, .inr (9, mf0 am)), (am 25, .inl (cI, 5, .inl (fun _ => 0)))] sz [] []) (va_Qv (fun _ => True) (zB (dC, dI) (zT cB cI cJ cZ cP cQ) (fun _ : Unit => [(am 0, .inr (9, mf0 am)), (am 25, .inl (cI, 5, .inl (fun _ => 0)))]) [(am 0, .inr (9, mf0 am)), (am 25, .inl (cI, 5, .inl (fun _ => 0)))] sz) (va_A [(am 0, .inr (9, mf0 am)), (am 25, .inl (cI, 5, .inl (fun _ => 0)))] sz)) 0 0 (va_A [(am 0, .inr (9, mf0 am)), (am 25, .inl (cI, 5, .inl (fun _ => 0)))] sz) := by
  refine z_enter (cc := cX9_pushes) (maxL := 3) (ret := none) (by decide) rfl (Nat.le_of_ble_eq_true rfl) ?_
  intro p e s m below meth c A ls Q H locs hx hb hr hml hown hts hlocks hin hK hP hD hA hX hS hAe hQ hl
  have hown : s.vm.findClass RX9 = some m.cls := hown
  have hi9 : ∀ w ∈ wsX90, w ∈ wsX9_pushes := fun w h => List.mem_cons_of_mem _ (List.mem_append_right _ h)
  have hk0 := hts (.fieldLink RX9 89 "MonthPushModel" "sheets" "[I") (by decide +kernel)
  have hk1 := hts (.fieldLink RX9 375 "MonthPushModel" "upTo" "I") (by decide +kernel)
  have hl : lv_has ls 3 [(0, .ref (am 0)), (1, .int p1)] := hl
  refine lv_iconst (v := 0) hx hb dX9_pushes_0 (by decide) ?_
  refine lv_istore_n (lv' := [(2, .int 0), (0, .ref (am 0)), (1, .int p1)]) hx hb dX9_pushes_1 rfl hl (by decide) rfl (fun ls hl => ?_)
  refine lv_iload_n hx hb dX9_pushes_2 rfl (lv_at hl 0 rfl) ?_
  refine lv_aload_n hx hb dX9_pushes_3 rfl (lv_at hl 1 rfl) ?_
  refine va_get (D := (dC, dI)) (ci := 9) (v := .ref (am 25)) (C := RX9) (T := TX9) (N := 60) hx hb hts hi9 hown hK hP 0 rfl rfl 35 (by decide) hk0 (fun _ h9 => h9) rfl dX9_pushes_4 ?_
  refine lv_iconst (v := 0) hx hb dX9_pushes_7 (by decide) ?_
  refine va_iald hx hb hK hP 1 1 rfl rfl (z_in (a := 0) (by decide) (by decide) (by decide)) dX9_pushes_8 ?_
  refine z_topi (y := 0) rfl ?_
  refine lv_icmp_ge (tgt := 45) hx hb dX9_pushes_9 (by decide) (fun _ => ?_) (fun c => absurd (by decide) c)
  refine lv_aload_n hx hb dX9_pushes_45 rfl (lv_at hl 1 rfl) ?_
  refine lv_aload_n hx hb dX9_pushes_46 rfl (lv_at hl 1 rfl) ?_
  refine va_get (D := (dC, dI)) (ci := 9) (v := .ref (am 25)) (C := RX9) (T := TX9) (N := 60) hx hb hts hi9 hown hK hP 0 rfl rfl 35 (by decide) hk0 (fun _ h9 => h9) rfl dX9_pushes_47 ?_
  refine lv_iconst (v := 0) hx hb dX9_pushes_50 (by decide) ?_
  refine va_iald hx hb hK hP 1 1 rfl rfl (z_in (a := 0) (by decide) (by decide) (by decide)) dX9_pushes_51 ?_
  refine z_topi (y := 0) rfl ?_
  refine z_put0 (D := (dC, dI)) (ci := 9) (v := .int 0) (ty := .int) (C := RX9) (T := TX9) (N := 60) hx hb hts hi9 tyX9 tyX9_ok nmX9 hown hK hP hD hS 0 rfl rfl 43 (by decide) hk1 (fun _ h9 => h9) rfl (by decide +kernel) rfl rfl rfl dX9_pushes_52 (fun H locs hP hS => ?_)
  exact z_vret () hx hb hr hlocks hK hP hD hS hAe hQ rfl trivial dX9_pushes_55
set_option maxHeartbeats 4000000 in
set_option maxRecDepth 100000 in
theorem c_X9_areBoth_197 (l : Launch) (dC : Nat → ClassId) (dI : Nat → Nat → Nat) (cB cI cJ cZ cP cQ : ClassId) (am : Nat → Nat) (sz : Nat) : Met l yX9_areBoth wsX9_areBoth ({ frames := 0, cells := 0, slots := 0, locals := 0 } : Room) (zPc [.ref (am 0)] (dC, dI) (zT cB cI cJ cZ cP cQ) [(am 0, .inr (9, mf0 am))] sz [] []) (va_Qi (fun r _ => (fun r => r = 0) r) (zB (dC, dI) (zT cB cI cJ cZ cP cQ) (fun _ : Unit => [(am 0, .inr (9, mf0 am))]) [(am 0, .inr (9, mf0 am))] sz) (va_A [(am 0, .inr (9, mf0 am))] sz)) 0 0 (va_A [(am 0, .inr (9, mf0 am))] sz) := by
  refine z_enter (cc := cX9_areBoth) (maxL := 1) (ret := (some .boolean)) (by decide) rfl (Nat.le_of_ble_eq_true rfl) ?_
  intro p e s m below meth c A ls Q H locs hx hb hr hml hown hts hlocks hin hK hP hD hA hX hS hAe hQ hl
  have hown : s.vm.findClass RX9 = some m.cls := hown
  have hi9 : ∀ w ∈ wsX90, w ∈ wsX9_areBoth := fun w h => List.mem_cons_of_mem _ (List.mem_append_right _ h)
  have hk0 := hts (.fieldLink RX9 378 "MonthPushModel" "n" "J") (by decide +kernel)
  have hl : lv_has ls 1 [(0, .ref (am 0))] := hl
  refine lv_aload_n hx hb dX9_areBoth_0 rfl (lv_at hl 0 rfl) ?_
  refine va_get (D := (dC, dI)) (ci := 9) (v := .long 0) (C := RX9) (T := TX9) (N := 60) hx hb hts hi9 hown hK hP 0 rfl rfl 44 (by decide) hk0 (fun _ h9 => h9) rfl dX9_areBoth_1 ?_
  refine lv_lconst (v := 0) hx hb dX9_areBoth_4 (by decide) ?_
  refine W.lcmp hx hb dX9_areBoth_5 ?_
  refine z_topi (y := 0) (by decide +kernel) ?_
  refine lv_if_le (tgt := 22) hx hb dX9_areBoth_6 (by decide) (fun _ => ?_) (fun c => absurd (by decide) c)
  refine lv_iconst (v := 0) hx hb dX9_areBoth_22 (by decide) ?_
  exact z_zret () hx hb hr hlocks hK hP hD hS hAe hQ rfl rfl (by decide) dX9_areBoth_23
set_option maxHeartbeats 4000000 in
set_option maxRecDepth 100000 in
theorem c_X9_byMoved_197 (l : Launch) (dC : Nat → ClassId) (dI : Nat → Nat → Nat) (cB cI cJ cZ cP cQ : ClassId) (am : Nat → Nat) (sz : Nat) : Met l yX9_byMoved wsX9_byMoved ({ frames := 1, cells := 0, slots := 0, locals := 21 } : Room) (zPc [.ref (am 0)] (dC, dI) (zT cB cI cJ cZ cP cQ) [(am 0, .inr (9, mf0 am))] sz [] []) (va_Ql (fun r _ => (fun r => r = (-2000000000)) r) (zB (dC, dI) (zT cB cI cJ cZ cP cQ) (fun _ : Unit => [(am 0, .inr (9, mf0 am))]) [(am 0, .inr (9, mf0 am))] sz) (va_A [(am 0, .inr (9, mf0 am))] sz)) 0 0 (va_A [(am 0, .inr (9, mf0 am))] sz) := by
  refine z_enter (cc := cX9_byMoved) (maxL := 1) (ret := (some .long)) (by decide) rfl (Nat.le_of_ble_eq_true rfl) ?_
  intro p e s m below meth c A ls Q H locs hx hb hr hml hown hts hlocks hin hK hP hD hA hX hS hAe hQ hl
  have hown : s.vm.findClass RX9 = some m.cls := hown
  have hl : lv_has ls 1 [(0, .ref (am 0))] := hl
  refine lv_aload_n hx hb dX9_byMoved_0 rfl (lv_at hl 0 rfl) ?_
  refine z_finv (w' := fun (u1 : Unit) => [(am 0, .inr (9, mf0 am))]) (va_runV (As := []) (rest := []) ⟨hx, hb, hml, hown, hts⟩ (c_X9_gathers_188 l dC dI cB cI cJ cZ cP cQ am H.size) (cwV 0 hts gX9_byMoved_X9_gathers rfl rfl rfl (by decide +kernel) ⟨Nat.le_of_ble_eq_true rfl, Nat.le_of_ble_eq_true rfl⟩) (z_pV (ci := 9) hK hP hD zX_nil [0] (by decide) rfl rfl 0 rfl) rfl rfl hl.1 rfl (lv_room (Nat.le_of_ble_eq_true rfl)) dX9_byMoved_1 ⟨Nat.le_of_ble_eq_true rfl, Nat.le_of_ble_eq_true rfl⟩) hP hD hS hA [0] [] [0] rfl rfl (by decide) (by decide) (fun _ => rfl) (by decide) (fun u1 H locs hp3 hP hD hS => ?_)
  have hP : va_P (dC, dI) vwCl [(am 0, .inr (9, mf0 am))] H := hP
  have hD : va_D A [(am 0, .inr (9, mf0 am))] := hD
  refine W.widen (k := 0) (n := 0) (by decide) (by decide) ?_
  refine lv_aload_n hx hb dX9_byMoved_4 rfl (lv_at hl 0 rfl) ?_
  refine z_fini (w' := fun (u4 : Unit) => [(am 0, .inr (9, mf0 am))]) (va_runV (As := []) (rest := []) ⟨hx, hb, hml, hown, hts⟩ (c_X9_areBoth_197 l dC dI cB cI cJ cZ cP cQ am H.size) (cwV 0 hts gX9_byMoved_X9_areBoth rfl rfl rfl (by decide +kernel) ⟨Nat.le_of_ble_eq_true rfl, Nat.le_of_ble_eq_true rfl⟩) (z_pV (ci := 9) hK hP hD zX_nil [0] (by decide) rfl rfl 0 rfl) rfl rfl hl.1 rfl (lv_room (Nat.le_of_ble_eq_true rfl)) dX9_byMoved_5 ⟨Nat.le_of_ble_eq_true rfl, Nat.le_of_ble_eq_true rfl⟩) hP hD hS hA [0] [] [0] rfl rfl (by decide) (by decide) (fun _ => rfl) (by decide) (fun r5 u4 H locs hp6 hP hD hS => ?_)
  have hP : va_P (dC, dI) vwCl [(am 0, .inr (9, mf0 am))] H := hP
  have hD : va_D A [(am 0, .inr (9, mf0 am))] := hD
  refine W.widen (k := 0) (n := 0) (by decide) (by decide) ?_
  obtain rfl : r5 = 0 := hp6
  refine lv_if_eq (tgt := 56) hx hb dX9_byMoved_8 (by decide) (fun _ => ?_) (fun c => absurd (by decide) c)
  refine lv_aload_n hx hb dX9_byMoved_56 rfl (lv_at hl 0 rfl) ?_
  refine z_finl (w' := fun (u7 : Unit) => [(am 0, .inr (9, mf0 am))]) (va_runV (As := []) (rest := []) ⟨hx, hb, hml, hown, hts⟩ (c_X9_untold_194 l dC dI cB cI cJ cZ cP cQ am H.size) (cwV 0 hts gX9_byMoved_X9_untold rfl rfl rfl (by decide +kernel) ⟨Nat.le_of_ble_eq_true rfl, Nat.le_of_ble_eq_true rfl⟩) (z_pV (ci := 9) hK hP hD zX_nil [0] (by decide) rfl rfl 0 rfl) rfl rfl hl.1 rfl (lv_room (Nat.le_of_ble_eq_true rfl)) dX9_byMoved_57 ⟨Nat.le_of_ble_eq_true rfl, Nat.le_of_ble_eq_true rfl⟩) hP hD hS hA [0] [] [0] rfl rfl (by decide) (by decide) (fun _ => rfl) (by decide) (fun r8 u7 H locs hp9 hP hD hS => ?_)
  have hP : va_P (dC, dI) vwCl [(am 0, .inr (9, mf0 am))] H := hP
  have hD : va_D A [(am 0, .inr (9, mf0 am))] := hD
  refine W.widen (k := 0) (n := 0) (by decide) (by decide) ?_
  obtain rfl : r8 = (-2000000000) := hp9
  exact z_lret () hx hb hr hlocks hK hP hD hS hAe hQ rfl rfl dX9_byMoved_60
set_option maxHeartbeats 4000000 in
set_option maxRecDepth 100000 in
theorem c_X9_byOf_197 (l : Launch) (dC : Nat → ClassId) (dI : Nat → Nat → Nat) (cB cI cJ cZ cP cQ : ClassId) (am : Nat → Nat) (sz : Nat) (p1 : Int32) : Met l yX9_byOf wsX9_byOf ({ frames := 2, cells := 0, slots := 0, locals := 45 } : Room) (zPc [.ref (am 0), .int p1] (dC, dI) (zT cB cI cJ cZ cP cQ) [(am 0, .inr (9, mf0 am)), (am 25, .inl (cI, 5, .inl (fun _ => 0)))] sz [] []) (va_Ql (fun r _ => (fun r => (r = (-2000000000) ∧ p1.toInt < 1) ∨ (r = (-2000000000) ∧ 1 ≤ p1.toInt ∧ 4094 < p1.toInt) ∨ (r = (-2000000000) ∧ 1 ≤ p1.toInt ∧ p1.toInt ≤ 4094)) r) (zB (dC, dI) (zT cB cI cJ cZ cP cQ) (fun _ : Unit => [(am 0, .inr (9, mf0 am)), (am 25, .inl (cI, 5, .inl (fun _ => 0)))]) [(am 0, .inr (9, mf0 am)), (am 25, .inl (cI, 5, .inl (fun _ => 0)))] sz) (va_A [(am 0, .inr (9, mf0 am)), (am 25, .inl (cI, 5, .inl (fun _ => 0)))] sz)) 0 0 (va_A [(am 0, .inr (9, mf0 am)), (am 25, .inl (cI, 5, .inl (fun _ => 0)))] sz) := by
  refine z_enter (cc := cX9_byOf) (maxL := 2) (ret := (some .long)) (by decide) rfl (Nat.le_of_ble_eq_true rfl) ?_
  intro p e s m below meth c A ls Q H locs hx hb hr hml hown hts hlocks hin hK hP hD hA hX hS hAe hQ hl
  have hown : s.vm.findClass RX9 = some m.cls := hown
  have hl : lv_has ls 2 [(0, .ref (am 0)), (1, .int p1)] := hl
  refine lv_iload_n hx hb dX9_byOf_0 rfl (lv_at hl 1 rfl) ?_
  refine z_fini (w' := fun (u1 : Unit) => [(am 0, .inr (9, mf0 am)), (am 25, .inl (cI, 5, .inl (fun _ => 0)))]) (va_runS (As := [.int p1]) (rest := []) ⟨hx, hb, hml, hown, hts⟩ (c_X9_isPush_193 l dC dI cB cI cJ cZ cP cQ H.size p1) (va_cwS 1 hts gX9_byOf_X9_isPush rfl rfl rfl (by decide +kernel) ⟨Nat.le_of_ble_eq_true rfl, Nat.le_of_ble_eq_true rfl⟩) (z_pS hK hP hD zX_nil [] (by decide) rfl) rfl rfl hl.1 rfl (lv_room (Nat.le_of_ble_eq_true rfl)) dX9_byOf_1 ⟨Nat.le_of_ble_eq_true rfl, Nat.le_of_ble_eq_true rfl⟩) hP hD hS hA [] [0, 1] [0, 1] rfl rfl (by decide) (by decide) (fun _ => rfl) (by decide) (fun r2 u1 H locs hp3 hP hD hS => ?_)
  have hP : va_P (dC, dI) vwCl [(am 0, .inr (9, mf0 am)), (am 25, .inl (cI, 5, .inl (fun _ => 0)))] H := hP
  have hD : va_D A [(am 0, .inr (9, mf0 am)), (am 25, .inl (cI, 5, .inl (fun _ => 0)))] := hD
  refine W.widen (k := 0) (n := 0) (by decide) (by decide) ?_
  rcases hp3 with ⟨rfl, f4⟩ | ⟨rfl, f5, f6⟩ | ⟨rfl, f7, f8⟩
  · refine lv_if_ne (tgt := 12) hx hb dX9_byOf_4 (by decide) (fun c => absurd (by decide) c) (fun _ => ?_)
    refine lv_aload_n hx hb dX9_byOf_7 rfl (lv_at hl 0 rfl) ?_
    refine z_finl (w' := fun (u9 : Unit) => [(am 0, .inr (9, mf0 am)), (am 25, .inl (cI, 5, .inl (fun _ => 0)))]) (va_runV (As := []) (rest := []) ⟨hx, hb, hml, hown, hts⟩ (c_X9_untold_194 l dC dI cB cI cJ cZ cP cQ am H.size) (cwV 0 hts gX9_byOf_X9_untold rfl rfl rfl (by decide +kernel) ⟨Nat.le_of_ble_eq_true rfl, Nat.le_of_ble_eq_true rfl⟩) (z_pV (ci := 9) hK hP hD zX_nil [0] (by decide) rfl rfl 0 rfl) rfl rfl hl.1 rfl (lv_room (Nat.le_of_ble_eq_true rfl)) dX9_byOf_8 ⟨Nat.le_of_ble_eq_true rfl, Nat.le_of_ble_eq_true rfl⟩) hP hD hS hA [0] [1] [1, 0] rfl rfl (by decide) (by decide) (fun _ => rfl) (by decide) (fun r10 u9 H locs hp11 hP hD hS => ?_)
    have hP : va_P (dC, dI) vwCl [(am 0, .inr (9, mf0 am)), (am 25, .inl (cI, 5, .inl (fun _ => 0)))] H := hP
    have hD : va_D A [(am 0, .inr (9, mf0 am)), (am 25, .inl (cI, 5, .inl (fun _ => 0)))] := hD
    refine W.widen (k := 0) (n := 0) (by decide) (by decide) ?_
    obtain rfl : r10 = (-2000000000) := hp11
    exact z_lret () hx hb hr hlocks hK hP hD hS hAe hQ rfl (Or.inl (⟨rfl, f4⟩)) dX9_byOf_11
  · refine lv_if_ne (tgt := 12) hx hb dX9_byOf_4 (by decide) (fun c => absurd (by decide) c) (fun _ => ?_)
    refine lv_aload_n hx hb dX9_byOf_7 rfl (lv_at hl 0 rfl) ?_
    refine z_finl (w' := fun (u12 : Unit) => [(am 0, .inr (9, mf0 am)), (am 25, .inl (cI, 5, .inl (fun _ => 0)))]) (va_runV (As := []) (rest := []) ⟨hx, hb, hml, hown, hts⟩ (c_X9_untold_194 l dC dI cB cI cJ cZ cP cQ am H.size) (cwV 0 hts gX9_byOf_X9_untold rfl rfl rfl (by decide +kernel) ⟨Nat.le_of_ble_eq_true rfl, Nat.le_of_ble_eq_true rfl⟩) (z_pV (ci := 9) hK hP hD zX_nil [0] (by decide) rfl rfl 0 rfl) rfl rfl hl.1 rfl (lv_room (Nat.le_of_ble_eq_true rfl)) dX9_byOf_8 ⟨Nat.le_of_ble_eq_true rfl, Nat.le_of_ble_eq_true rfl⟩) hP hD hS hA [0] [1] [1, 0] rfl rfl (by decide) (by decide) (fun _ => rfl) (by decide) (fun r13 u12 H locs hp14 hP hD hS => ?_)
    have hP : va_P (dC, dI) vwCl [(am 0, .inr (9, mf0 am)), (am 25, .inl (cI, 5, .inl (fun _ => 0)))] H := hP
    have hD : va_D A [(am 0, .inr (9, mf0 am)), (am 25, .inl (cI, 5, .inl (fun _ => 0)))] := hD
    refine W.widen (k := 0) (n := 0) (by decide) (by decide) ?_
    obtain rfl : r13 = (-2000000000) := hp14
    exact z_lret () hx hb hr hlocks hK hP hD hS hAe hQ rfl (Or.inr (Or.inl ⟨rfl, f5, f6⟩)) dX9_byOf_11
  · refine lv_if_ne (tgt := 12) hx hb dX9_byOf_4 (by decide) (fun _ => ?_) (fun c => absurd c (by decide))
    refine lv_aload_n hx hb dX9_byOf_12 rfl (lv_at hl 0 rfl) ?_
    refine lv_iload_n hx hb dX9_byOf_13 rfl (lv_at hl 1 rfl) ?_
    refine z_finv (w' := fun (u15 : Unit) => [(am 0, .inr (9, mf0 am)), (am 25, .inl (cI, 5, .inl (fun _ => 0)))]) (va_runV (As := [.int p1]) (rest := []) ⟨hx, hb, hml, hown, hts⟩ (c_X9_pushes_195 l dC dI cB cI cJ cZ cP cQ am H.size p1) (cwV 1 hts gX9_byOf_X9_pushes rfl rfl rfl (by decide +kernel) ⟨Nat.le_of_ble_eq_true rfl, Nat.le_of_ble_eq_true rfl⟩) (z_pV (ci := 9) hK hP hD zX_nil [0, 1] (by decide) rfl rfl 0 rfl) rfl rfl hl.1 rfl (lv_room (Nat.le_of_ble_eq_true rfl)) dX9_byOf_14 ⟨Nat.le_of_ble_eq_true rfl, Nat.le_of_ble_eq_true rfl⟩) hP hD hS hA [0, 1] [] [0, 1] rfl rfl (by decide) (by decide) (fun _ => rfl) (by decide) (fun u15 H locs hp17 hP hD hS => ?_)
    have hP : va_P (dC, dI) vwCl [(am 0, .inr (9, mf0 am)), (am 25, .inl (cI, 5, .inl (fun _ => 0)))] H := hP
    have hD : va_D A [(am 0, .inr (9, mf0 am)), (am 25, .inl (cI, 5, .inl (fun _ => 0)))] := hD
    refine W.widen (k := 0) (n := 0) (by decide) (by decide) ?_
    refine lv_aload_n hx hb dX9_byOf_17 rfl (lv_at hl 0 rfl) ?_
    refine z_finl (w' := fun (u18 : Unit) => [(am 0, .inr (9, mf0 am)), (am 25, .inl (cI, 5, .inl (fun _ => 0)))]) (va_runV (As := []) (rest := []) ⟨hx, hb, hml, hown, hts⟩ (c_X9_byMoved_197 l dC dI cB cI cJ cZ cP cQ am H.size) (cwV 0 hts gX9_byOf_X9_byMoved rfl rfl rfl (by decide +kernel) ⟨Nat.le_of_ble_eq_true rfl, Nat.le_of_ble_eq_true rfl⟩) (z_pV (ci := 9) hK hP hD zX_nil [0] (by decide) rfl rfl 0 rfl) rfl rfl hl.1 rfl (lv_room (Nat.le_of_ble_eq_true rfl)) dX9_byOf_18 ⟨Nat.le_of_ble_eq_true rfl, Nat.le_of_ble_eq_true rfl⟩) hP hD hS hA [0] [1] [1, 0] rfl rfl (by decide) (by decide) (fun _ => rfl) (by decide) (fun r19 u18 H locs hp20 hP hD hS => ?_)
    have hP : va_P (dC, dI) vwCl [(am 0, .inr (9, mf0 am)), (am 25, .inl (cI, 5, .inl (fun _ => 0)))] H := hP
    have hD : va_D A [(am 0, .inr (9, mf0 am)), (am 25, .inl (cI, 5, .inl (fun _ => 0)))] := hD
    refine W.widen (k := 0) (n := 0) (by decide) (by decide) ?_
    obtain rfl : r19 = (-2000000000) := hp20
    exact z_lret () hx hb hr hlocks hK hP hD hS hAe hQ rfl (Or.inr (Or.inr ⟨rfl, f7, f8⟩)) dX9_byOf_21
set_option maxHeartbeats 4000000 in
set_option maxRecDepth 100000 in
theorem c_X9_by_197 (l : Launch) (dC : Nat → ClassId) (dI : Nat → Nat → Nat) (cB cI cJ cZ cP cQ : ClassId) (am : Nat → Nat) (sz : Nat) (p1 : Int32) : Met l yX9_by wsX9_by ({ frames := 3, cells := 0, slots := 0, locals := 66 } : Room) (zPc [.ref (am 0), .int p1] (dC, dI) (zT cB cI cJ cZ cP cQ) [(am 0, .inr (9, mf0 am)), (am 25, .inl (cI, 5, .inl (fun _ => 0)))] sz [] []) (va_Ql (fun r _ => (fun r => (r = (-2000000000) ∧ p1.toInt < 1) ∨ (r = (-2000000000) ∧ 1 ≤ p1.toInt ∧ 4094 < p1.toInt) ∨ (r = (-2000000000) ∧ 1 ≤ p1.toInt ∧ p1.toInt ≤ 4094)) r) (zB (dC, dI) (zT cB cI cJ cZ cP cQ) (fun _ : Unit => []) [(am 0, .inr (9, mf0 am)), (am 25, .inl (cI, 5, .inl (fun _ => 0)))] sz) (va_A [(am 0, .inr (9, mf0 am)), (am 25, .inl (cI, 5, .inl (fun _ => 0)))] sz)) 0 0 (va_A [(am 0, .inr (9, mf0 am)), (am 25, .inl (cI, 5, .inl (fun _ => 0)))] sz) := by
  refine z_enter (cc := cX9_by) (maxL := 2) (ret := (some .long)) (by decide) rfl (Nat.le_of_ble_eq_true rfl) ?_
  intro p e s m below meth c A ls Q H locs hx hb hr hml hown hts hlocks hin hK hP hD hA hX hS hAe hQ hl
  have hown : s.vm.findClass RX9 = some m.cls := hown
  have hi9 : ∀ w ∈ wsX90, w ∈ wsX9_by := fun w h => List.mem_cons_of_mem _ (List.mem_append_right _ h)
  have hk0 := hts (.fieldLink RX9 125 "MonthPushModel" "thrown" "I") (by decide +kernel)
  have hl : lv_has ls 2 [(0, .ref (am 0)), (1, .int p1)] := hl
  refine lv_aload_n hx hb dX9_by_0 rfl (lv_at hl 0 rfl) ?_
  refine lv_iconst (v := 0) hx hb dX9_by_1 (by decide) ?_
  refine z_put0 (D := (dC, dI)) (ci := 9) (v := .int 0) (ty := .int) (C := RX9) (T := TX9) (N := 60) hx hb hts hi9 tyX9 tyX9_ok nmX9 hown hK hP hD hS 0 rfl rfl 0 (by decide) hk0 (fun _ h9 => h9) rfl (by decide +kernel) rfl rfl rfl dX9_by_2 (fun H locs hP hS => ?_)
  refine lv_aload_n hx hb dX9_by_5 rfl (lv_at hl 0 rfl) ?_
  refine lv_iload_n hx hb dX9_by_6 rfl (lv_at hl 1 rfl) ?_
  refine z_finl (w' := fun (u1 : Unit) => [(am 0, .inr (9, mf0 am)), (am 25, .inl (cI, 5, .inl (fun _ => 0)))]) (va_runV (As := [.int p1]) (rest := []) ⟨hx, hb, hml, hown, hts⟩ (c_X9_byOf_197 l dC dI cB cI cJ cZ cP cQ am H.size p1) (cwV 1 hts gX9_by_X9_byOf rfl rfl rfl (by decide +kernel) ⟨Nat.le_of_ble_eq_true rfl, Nat.le_of_ble_eq_true rfl⟩) (z_pV (ci := 9) hK hP hD zX_nil [0, 1] (by decide) rfl rfl 0 rfl) rfl rfl hl.1 rfl (lv_room (Nat.le_of_ble_eq_true rfl)) dX9_by_7 ⟨Nat.le_of_ble_eq_true rfl, Nat.le_of_ble_eq_true rfl⟩) hP hD hS hA [0, 1] [] [0, 1] rfl rfl (by decide) (by decide) (fun _ => rfl) (by decide) (fun r2 u1 H locs hp3 hP hD hS => ?_)
  have hP : va_P (dC, dI) vwCl [(am 0, .inr (9, mf0 am)), (am 25, .inl (cI, 5, .inl (fun _ => 0)))] H := hP
  have hD : va_D A [(am 0, .inr (9, mf0 am)), (am 25, .inl (cI, 5, .inl (fun _ => 0)))] := hD
  refine W.widen (k := 0) (n := 0) (by decide) (by decide) ?_
  rcases hp3 with ⟨rfl, f4⟩ | ⟨rfl, f5, f6⟩ | ⟨rfl, f7, f8⟩
  · have hP9 := hP.sub (ws' := []) [] rfl
    have hD9 := hD.sub (ws' := []) [] (by decide) rfl
    exact z_lret () hx hb hr hlocks hK hP9 hD9 hS hAe hQ rfl (Or.inl (⟨rfl, f4⟩)) dX9_by_10
  · have hP9 := hP.sub (ws' := []) [] rfl
    have hD9 := hD.sub (ws' := []) [] (by decide) rfl
    exact z_lret () hx hb hr hlocks hK hP9 hD9 hS hAe hQ rfl (Or.inr (Or.inl ⟨rfl, f5, f6⟩)) dX9_by_10
  · have hP9 := hP.sub (ws' := []) [] rfl
    have hD9 := hD.sub (ws' := []) [] (by decide) rfl
    exact z_lret () hx hb hr hlocks hK hP9 hD9 hS hAe hQ rfl (Or.inr (Or.inr ⟨rfl, f7, f8⟩)) dX9_by_10
set_option maxHeartbeats 4000000 in
set_option maxRecDepth 100000 in
theorem c_X9_groupsOf_200 (l : Launch) (dC : Nat → ClassId) (dI : Nat → Nat → Nat) (cB cI cJ cZ cP cQ : ClassId) (am : Nat → Nat) (sz : Nat) : Met l yX9_groupsOf wsX9_groupsOf ({ frames := 0, cells := 0, slots := 0, locals := 0 } : Room) (zPc [.ref (am 0)] (dC, dI) (zT cB cI cJ cZ cP cQ) [(am 0, .inr (9, mf0 am)), (am 25, .inl (cI, 5, .inl (fun _ => 0))), (am 33, .inl (cJ, 72, .inr (.inl (fun _ => 0)))), (am 34, .inl (cJ, 72, .inr (.inl (fun _ => 0)))), (am 35, .inl (cJ, 72, .inr (.inl (fun _ => 0))))] sz [] []) (va_Qi (fun r _ => (fun r => r = 0) r) (zB (dC, dI) (zT cB cI cJ cZ cP cQ) (fun _ : Unit => [(am 0, .inr (9, mf0 am)), (am 25, .inl (cI, 5, .inl (fun _ => 0))), (am 33, .inl (cJ, 72, .inr (.inl (fun _ => 0)))), (am 34, .inl (cJ, 72, .inr (.inl (fun _ => 0)))), (am 35, .inl (cJ, 72, .inr (.inl (fun _ => 0))))]) [(am 0, .inr (9, mf0 am)), (am 25, .inl (cI, 5, .inl (fun _ => 0))), (am 33, .inl (cJ, 72, .inr (.inl (fun _ => 0)))), (am 34, .inl (cJ, 72, .inr (.inl (fun _ => 0)))), (am 35, .inl (cJ, 72, .inr (.inl (fun _ => 0))))] sz) (va_A [(am 0, .inr (9, mf0 am)), (am 25, .inl (cI, 5, .inl (fun _ => 0))), (am 33, .inl (cJ, 72, .inr (.inl (fun _ => 0)))), (am 34, .inl (cJ, 72, .inr (.inl (fun _ => 0)))), (am 35, .inl (cJ, 72, .inr (.inl (fun _ => 0))))] sz)) 0 0 (va_A [(am 0, .inr (9, mf0 am)), (am 25, .inl (cI, 5, .inl (fun _ => 0))), (am 33, .inl (cJ, 72, .inr (.inl (fun _ => 0)))), (am 34, .inl (cJ, 72, .inr (.inl (fun _ => 0)))), (am 35, .inl (cJ, 72, .inr (.inl (fun _ => 0))))] sz) := by
  refine z_enter (cc := cX9_groupsOf) (maxL := 3) (ret := (some .int)) (by decide) rfl (Nat.le_of_ble_eq_true rfl) ?_
  intro p e s m below meth c A ls Q H locs hx hb hr hml hown hts hlocks hin hK hP hD hA hX hS hAe hQ hl
  have hown : s.vm.findClass RX9 = some m.cls := hown
  have hi9 : ∀ w ∈ wsX90, w ∈ wsX9_groupsOf := fun w h => List.mem_cons_of_mem _ (List.mem_append_right _ h)
  have hk0 := hts (.fieldLink RX9 89 "MonthPushModel" "sheets" "[I") (by decide +kernel)
  have hk1 := hts (.fieldLink RX9 113 "MonthPushModel" "groupN" "[J") (by decide +kernel)
  have hk2 := hts (.fieldLink RX9 116 "MonthPushModel" "groupS" "[J") (by decide +kernel)
  have hk3 := hts (.fieldLink RX9 119 "MonthPushModel" "groupW" "[J") (by decide +kernel)
  have hl : lv_has ls 3 [(0, .ref (am 0))] := hl
  refine lv_iconst (v := 0) hx hb dX9_groupsOf_0 (by decide) ?_
  refine lv_istore_n (lv' := [(1, .int 0), (0, .ref (am 0))]) hx hb dX9_groupsOf_1 rfl hl (by decide) rfl (fun ls hl => ?_)
  have hlp1 : ∀ (n i : Nat), i + n = 72 → 0 ≤ i → ∀ (H : Heap) (locs : List Loc), va_P (dC, dI) vwCl [(am 0, .inr (9, mf0 am)), (am 25, .inl (cI, 5, .inl (fun _ => 0))), (am 33, .inl (cJ, 72, .inr (.inl (fun _ => 0)))), (am 34, .inl (cJ, 72, .inr (.inl (fun _ => 0)))), (am 35, .inl (cJ, 72, .inr (.inl (fun _ => 0))))] H → va_S A s.heap H locs → ∀ (ls : Array Slot), lv_has ls 3 [(1, .int (nI i)), (0, .ref (am 0))] → W p l e ({ frames := 0, cells := 0, slots := 0, locals := 0 } : Room) s m ([.ref (am 0)] : List Value).toArray below meth c H locs 0 0 Q (F0 m 2 ls []) := by
    intro n
    induction n with
    | zero =>
      intro i hi hi0 H locs hP hS ls hl
      obtain rfl : i = 72 := by omega
      have hl : lv_has ls 3 [(1, .int 72), (0, .ref (am 0))] := hl
      refine lv_iload_n hx hb dX9_groupsOf_2 rfl (lv_at hl 0 rfl) ?_
      refine lv_bipush (v := 72) hx hb dX9_groupsOf_3 (by decide) ?_
      refine lv_icmp_ge (tgt := 35) hx hb dX9_groupsOf_5 (by decide) (fun _ => ?_) (fun c => absurd (by decide) c)
      refine lv_iconst (v := 0) hx hb dX9_groupsOf_35 (by decide) ?_
      refine lv_istore_n (lv' := [(1, .int 0), (0, .ref (am 0))]) hx hb dX9_groupsOf_36 rfl hl (by decide) rfl (fun ls hl => ?_)
      refine lv_iload_n hx hb dX9_groupsOf_37 rfl (lv_at hl 0 rfl) ?_
      refine lv_aload_n hx hb dX9_groupsOf_38 rfl (lv_at hl 1 rfl) ?_
      refine va_get (D := (dC, dI)) (ci := 9) (v := .ref (am 25)) (C := RX9) (T := TX9) (N := 60) hx hb hts hi9 hown hK hP 0 rfl rfl 35 (by decide) hk0 (fun _ h9 => h9) rfl dX9_groupsOf_39 ?_
      refine lv_iconst (v := 0) hx hb dX9_groupsOf_42 (by decide) ?_
      refine va_iald hx hb hK hP 1 1 rfl rfl (z_in (a := 0) (by decide) (by decide) (by decide)) dX9_groupsOf_43 ?_
      refine z_topi (y := 0) rfl ?_
      refine lv_icmp_ge (tgt := 114) hx hb dX9_groupsOf_44 (by decide) (fun _ => ?_) (fun c => absurd (by decide) c)
      refine lv_iconst (v := 0) hx hb dX9_groupsOf_114 (by decide) ?_
      refine lv_istore_n (lv' := [(1, .int 0), (0, .ref (am 0))]) hx hb dX9_groupsOf_115 rfl hl (by decide) rfl (fun ls hl => ?_)
      refine lv_iconst (v := 0) hx hb dX9_groupsOf_116 (by decide) ?_
      refine lv_istore_n (lv' := [(2, .int 0), (1, .int 0), (0, .ref (am 0))]) hx hb dX9_groupsOf_117 rfl hl (by decide) rfl (fun ls hl => ?_)
      have hlp2 : ∀ (n i : Nat), i + n = 72 → 0 ≤ i → ∀ (H : Heap) (locs : List Loc), va_P (dC, dI) vwCl [(am 0, .inr (9, mf0 am)), (am 25, .inl (cI, 5, .inl (fun _ => 0))), (am 33, .inl (cJ, 72, .inr (.inl (fun _ => 0)))), (am 34, .inl (cJ, 72, .inr (.inl (fun _ => 0)))), (am 35, .inl (cJ, 72, .inr (.inl (fun _ => 0))))] H → va_S A s.heap H locs → ∀ (ls : Array Slot), lv_has ls 3 [(2, .int (nI i)), (1, .int 0), (0, .ref (am 0))] → W p l e ({ frames := 0, cells := 0, slots := 0, locals := 0 } : Room) s m ([.ref (am 0)] : List Value).toArray below meth c H locs 0 0 Q (F0 m 118 ls []) := by
        intro n
        induction n with
        | zero =>
          intro i hi hi0 H locs hP hS ls hl
          obtain rfl : i = 72 := by omega
          have hl : lv_has ls 3 [(2, .int 72), (1, .int 0), (0, .ref (am 0))] := hl
          refine lv_iload_n hx hb dX9_groupsOf_118 rfl (lv_at hl 0 rfl) ?_
          refine lv_bipush (v := 72) hx hb dX9_groupsOf_119 (by decide) ?_
          refine lv_icmp_ge (tgt := 149) hx hb dX9_groupsOf_121 (by decide) (fun _ => ?_) (fun c => absurd (by decide) c)
          refine lv_iload_n hx hb dX9_groupsOf_149 rfl (lv_at hl 1 rfl) ?_
          exact z_iret () hx hb hr hlocks hK hP hD hS hAe hQ rfl rfl dX9_groupsOf_150
        | succ n ih =>
          intro i hi hi0 H locs hP hS ls hl
          have hlt : i < 72 := by omega
          refine lv_iload_n hx hb dX9_groupsOf_118 rfl (lv_at hl 0 rfl) ?_
          refine lv_bipush (v := 72) hx hb dX9_groupsOf_119 (by decide) ?_
          refine lv_icmp_ge (tgt := 149) hx hb dX9_groupsOf_121 (by decide) (fun c => absurd (show 72 ≤ (i : Int) from z_le (by decide) (nI_toInt (by omega)) c) (by omega)) (fun _ => ?_)
          refine lv_iload_n hx hb dX9_groupsOf_124 rfl (lv_at hl 1 rfl) ?_
          refine lv_aload_n hx hb dX9_groupsOf_125 rfl (lv_at hl 2 rfl) ?_
          refine va_get (D := (dC, dI)) (ci := 9) (v := .ref (am 33)) (C := RX9) (T := TX9) (N := 60) hx hb hts hi9 hown hK hP 0 rfl rfl 54 (by decide) hk1 (fun _ h9 => h9) rfl dX9_groupsOf_126 ?_
          refine lv_iload_n hx hb dX9_groupsOf_129 rfl (lv_at hl 0 rfl) ?_
          refine va_lald hx hb hK hP 2 2 rfl rfl (z_in (nI_toInt (by omega)) (by omega) (by omega)) dX9_groupsOf_130 ?_
          refine z_topl (y := 0) rfl ?_
          refine lv_lconst (v := 0) hx hb dX9_groupsOf_131 (by decide) ?_
          refine W.lcmp hx hb dX9_groupsOf_132 ?_
          refine z_topi (y := 0) (by decide +kernel) ?_
          refine lv_if_le (tgt := 140) hx hb dX9_groupsOf_133 (by decide) (fun _ => ?_) (fun c => absurd (by decide) c)
          refine lv_iconst (v := 0) hx hb dX9_groupsOf_140 (by decide) ?_
          refine lv_iadd hx hb dX9_groupsOf_141 ?_
          refine z_topi (y := 0) (by decide +kernel) ?_
          refine lv_istore_n (lv' := [(1, .int 0), (2, .int (nI i)), (0, .ref (am 0))]) hx hb dX9_groupsOf_142 rfl hl (by decide) rfl (fun ls hl => ?_)
          refine lv_iinc (v := nI (i + 1)) (lv' := [(2, .int (nI (i + 1))), (1, .int 0), (0, .ref (am 0))]) hx hb dX9_groupsOf_143 hl (k := 1) rfl (nI_1 i) (by decide) rfl (fun ls hl => ?_)
          refine lv_goto (tgt := 118) hx hb dX9_groupsOf_146 (by decide) ?_
          exact ih (i + 1) (by omega) (by omega) _ _ hP hS ls (lv_sub hl [0, 1, 2] rfl)
      exact hlp2 72 0 rfl (by omega) _ _ hP hS ls (lv_sub hl [0, 1, 2] rfl)
    | succ n ih =>
      intro i hi hi0 H locs hP hS ls hl
      have hlt : i < 72 := by omega
      refine lv_iload_n hx hb dX9_groupsOf_2 rfl (lv_at hl 0 rfl) ?_
      refine lv_bipush (v := 72) hx hb dX9_groupsOf_3 (by decide) ?_
      refine lv_icmp_ge (tgt := 35) hx hb dX9_groupsOf_5 (by decide) (fun c => absurd (show 72 ≤ (i : Int) from z_le (by decide) (nI_toInt (by omega)) c) (by omega)) (fun _ => ?_)
      refine lv_aload_n hx hb dX9_groupsOf_8 rfl (lv_at hl 1 rfl) ?_
      refine va_get (D := (dC, dI)) (ci := 9) (v := .ref (am 33)) (C := RX9) (T := TX9) (N := 60) hx hb hts hi9 hown hK hP 0 rfl rfl 54 (by decide) hk1 (fun _ h9 => h9) rfl dX9_groupsOf_9 ?_
      refine lv_iload_n hx hb dX9_groupsOf_12 rfl (lv_at hl 0 rfl) ?_
      refine lv_lconst (v := 0) hx hb dX9_groupsOf_13 (by decide) ?_
      refine z_last0 hx hb hK hP hD hS 2 2 rfl rfl (z_in (nI_toInt (by omega)) (by omega) (by omega)) rfl dX9_groupsOf_14 (fun H locs hP hS => ?_)
      refine lv_aload_n hx hb dX9_groupsOf_15 rfl (lv_at hl 1 rfl) ?_
      refine va_get (D := (dC, dI)) (ci := 9) (v := .ref (am 34)) (C := RX9) (T := TX9) (N := 60) hx hb hts hi9 hown hK hP 0 rfl rfl 55 (by decide) hk2 (fun _ h9 => h9) rfl dX9_groupsOf_16 ?_
      refine lv_iload_n hx hb dX9_groupsOf_19 rfl (lv_at hl 0 rfl) ?_
      refine lv_lconst (v := 0) hx hb dX9_groupsOf_20 (by decide) ?_
      refine z_last0 hx hb hK hP hD hS 3 2 rfl rfl (z_in (nI_toInt (by omega)) (by omega) (by omega)) rfl dX9_groupsOf_21 (fun H locs hP hS => ?_)
      refine lv_aload_n hx hb dX9_groupsOf_22 rfl (lv_at hl 1 rfl) ?_
      refine va_get (D := (dC, dI)) (ci := 9) (v := .ref (am 35)) (C := RX9) (T := TX9) (N := 60) hx hb hts hi9 hown hK hP 0 rfl rfl 56 (by decide) hk3 (fun _ h9 => h9) rfl dX9_groupsOf_23 ?_
      refine lv_iload_n hx hb dX9_groupsOf_26 rfl (lv_at hl 0 rfl) ?_
      refine lv_lconst (v := 0) hx hb dX9_groupsOf_27 (by decide) ?_
      refine z_last0 hx hb hK hP hD hS 4 2 rfl rfl (z_in (nI_toInt (by omega)) (by omega) (by omega)) rfl dX9_groupsOf_28 (fun H locs hP hS => ?_)
      refine lv_iinc (v := nI (i + 1)) (lv' := [(1, .int (nI (i + 1))), (0, .ref (am 0))]) hx hb dX9_groupsOf_29 hl (k := 0) rfl (nI_1 i) (by decide) rfl (fun ls hl => ?_)
      refine lv_goto (tgt := 2) hx hb dX9_groupsOf_32 (by decide) ?_
      exact ih (i + 1) (by omega) (by omega) _ _ hP hS ls (lv_sub hl [0, 1] rfl)
  exact hlp1 72 0 rfl (by omega) _ _ hP hS ls (lv_sub hl [0, 1] rfl)
set_option maxHeartbeats 4000000 in
set_option maxRecDepth 100000 in
theorem c_X9_manyOf_200 (l : Launch) (dC : Nat → ClassId) (dI : Nat → Nat → Nat) (cB cI cJ cZ cP cQ : ClassId) (am : Nat → Nat) (sz : Nat) : Met l yX9_manyOf wsX9_manyOf ({ frames := 1, cells := 0, slots := 0, locals := 24 } : Room) (zPc [.ref (am 0)] (dC, dI) (zT cB cI cJ cZ cP cQ) [(am 0, .inr (9, mf0 am)), (am 25, .inl (cI, 5, .inl (fun _ => 0))), (am 33, .inl (cJ, 72, .inr (.inl (fun _ => 0)))), (am 34, .inl (cJ, 72, .inr (.inl (fun _ => 0)))), (am 35, .inl (cJ, 72, .inr (.inl (fun _ => 0))))] sz [] []) (va_Ql (fun r _ => (fun r => r = (-2000000000)) r) (zB (dC, dI) (zT cB cI cJ cZ cP cQ) (fun _ : Unit => [(am 0, .inr (9, mf0 am)), (am 25, .inl (cI, 5, .inl (fun _ => 0))), (am 33, .inl (cJ, 72, .inr (.inl (fun _ => 0)))), (am 34, .inl (cJ, 72, .inr (.inl (fun _ => 0)))), (am 35, .inl (cJ, 72, .inr (.inl (fun _ => 0))))]) [(am 0, .inr (9, mf0 am)), (am 25, .inl (cI, 5, .inl (fun _ => 0))), (am 33, .inl (cJ, 72, .inr (.inl (fun _ => 0)))), (am 34, .inl (cJ, 72, .inr (.inl (fun _ => 0)))), (am 35, .inl (cJ, 72, .inr (.inl (fun _ => 0))))] sz) (va_A [(am 0, .inr (9, mf0 am)), (am 25, .inl (cI, 5, .inl (fun _ => 0))), (am 33, .inl (cJ, 72, .inr (.inl (fun _ => 0)))), (am 34, .inl (cJ, 72, .inr (.inl (fun _ => 0)))), (am 35, .inl (cJ, 72, .inr (.inl (fun _ => 0))))] sz)) 0 0 (va_A [(am 0, .inr (9, mf0 am)), (am 25, .inl (cI, 5, .inl (fun _ => 0))), (am 33, .inl (cJ, 72, .inr (.inl (fun _ => 0)))), (am 34, .inl (cJ, 72, .inr (.inl (fun _ => 0)))), (am 35, .inl (cJ, 72, .inr (.inl (fun _ => 0))))] sz) := by
  refine z_enter (cc := cX9_manyOf) (maxL := 6) (ret := (some .long)) (by decide) rfl (Nat.le_of_ble_eq_true rfl) ?_
  intro p e s m below meth c A ls Q H locs hx hb hr hml hown hts hlocks hin hK hP hD hA hX hS hAe hQ hl
  have hown : s.vm.findClass RX9 = some m.cls := hown
  have hi9 : ∀ w ∈ wsX90, w ∈ wsX9_manyOf := fun w h => List.mem_cons_of_mem _ (List.mem_append_right _ h)
  have hk0 := hts (.fieldLink RX9 381 "MonthPushModel" "m" "J") (by decide +kernel)
  have hk1 := hts (.fieldLink RX9 387 "MonthPushModel" "t" "J") (by decide +kernel)
  have hk2 := hts (.fieldLink RX9 393 "MonthPushModel" "v" "J") (by decide +kernel)
  have hk3 := hts (.fieldLink RX9 113 "MonthPushModel" "groupN" "[J") (by decide +kernel)
  have hl : lv_has ls 6 [(0, .ref (am 0))] := hl
  refine lv_aload_n hx hb dX9_manyOf_0 rfl (lv_at hl 0 rfl) ?_
  refine lv_iconst (v := 0) hx hb dX9_manyOf_1 (by decide) ?_
  refine z_finv (w' := fun (u1 : Unit) => [(am 0, .inr (9, mf0 am)), (am 25, .inl (cI, 5, .inl (fun _ => 0))), (am 33, .inl (cJ, 72, .inr (.inl (fun _ => 0)))), (am 34, .inl (cJ, 72, .inr (.inl (fun _ => 0)))), (am 35, .inl (cJ, 72, .inr (.inl (fun _ => 0))))]) (va_runV (As := [.int 0]) (rest := []) ⟨hx, hb, hml, hown, hts⟩ (c_X9_pushes_187 l dC dI cB cI cJ cZ cP cQ am H.size) (cwV 1 hts gX9_manyOf_X9_pushes rfl rfl rfl (by decide +kernel) ⟨Nat.le_of_ble_eq_true rfl, Nat.le_of_ble_eq_true rfl⟩) (z_pV (ci := 9) hK hP hD zX_nil [0, 1] (by decide) rfl rfl 0 rfl) rfl rfl hl.1 rfl (lv_room (Nat.le_of_ble_eq_true rfl)) dX9_manyOf_2 ⟨Nat.le_of_ble_eq_true rfl, Nat.le_of_ble_eq_true rfl⟩) hP hD hS hA [0, 1] [2, 3, 4] [3, 4, 0, 1, 2] rfl rfl (by decide) (by decide) (fun _ => rfl) (by decide) (fun u1 H locs hp3 hP hD hS => ?_)
  have hP : va_P (dC, dI) vwCl [(am 0, .inr (9, mf0 am)), (am 25, .inl (cI, 5, .inl (fun _ => 0))), (am 33, .inl (cJ, 72, .inr (.inl (fun _ => 0)))), (am 34, .inl (cJ, 72, .inr (.inl (fun _ => 0)))), (am 35, .inl (cJ, 72, .inr (.inl (fun _ => 0))))] H := hP
  have hD : va_D A [(am 0, .inr (9, mf0 am)), (am 25, .inl (cI, 5, .inl (fun _ => 0))), (am 33, .inl (cJ, 72, .inr (.inl (fun _ => 0)))), (am 34, .inl (cJ, 72, .inr (.inl (fun _ => 0)))), (am 35, .inl (cJ, 72, .inr (.inl (fun _ => 0))))] := hD
  refine W.widen (k := 0) (n := 0) (by decide) (by decide) ?_
  refine lv_aload_n hx hb dX9_manyOf_5 rfl (lv_at hl 0 rfl) ?_
  refine z_finv (w' := fun (u4 : Unit) => [(am 0, .inr (9, mf0 am)), (am 25, .inl (cI, 5, .inl (fun _ => 0))), (am 33, .inl (cJ, 72, .inr (.inl (fun _ => 0)))), (am 34, .inl (cJ, 72, .inr (.inl (fun _ => 0)))), (am 35, .inl (cJ, 72, .inr (.inl (fun _ => 0))))]) (va_runV (As := []) (rest := []) ⟨hx, hb, hml, hown, hts⟩ (c_X9_gathers_188 l dC dI cB cI cJ cZ cP cQ am H.size) (cwV 0 hts gX9_manyOf_X9_gathers rfl rfl rfl (by decide +kernel) ⟨Nat.le_of_ble_eq_true rfl, Nat.le_of_ble_eq_true rfl⟩) (z_pV (ci := 9) hK hP hD zX_nil [0] (by decide) rfl rfl 0 rfl) rfl rfl hl.1 rfl (lv_room (Nat.le_of_ble_eq_true rfl)) dX9_manyOf_6 ⟨Nat.le_of_ble_eq_true rfl, Nat.le_of_ble_eq_true rfl⟩) hP hD hS hA [0] [1, 2, 3, 4] [4, 0, 1, 2, 3] rfl rfl (by decide) (by decide) (fun _ => rfl) (by decide) (fun u4 H locs hp6 hP hD hS => ?_)
  have hP : va_P (dC, dI) vwCl [(am 0, .inr (9, mf0 am)), (am 25, .inl (cI, 5, .inl (fun _ => 0))), (am 33, .inl (cJ, 72, .inr (.inl (fun _ => 0)))), (am 34, .inl (cJ, 72, .inr (.inl (fun _ => 0)))), (am 35, .inl (cJ, 72, .inr (.inl (fun _ => 0))))] H := hP
  have hD : va_D A [(am 0, .inr (9, mf0 am)), (am 25, .inl (cI, 5, .inl (fun _ => 0))), (am 33, .inl (cJ, 72, .inr (.inl (fun _ => 0)))), (am 34, .inl (cJ, 72, .inr (.inl (fun _ => 0)))), (am 35, .inl (cJ, 72, .inr (.inl (fun _ => 0))))] := hD
  refine W.widen (k := 0) (n := 0) (by decide) (by decide) ?_
  refine lv_aload_n hx hb dX9_manyOf_9 rfl (lv_at hl 0 rfl) ?_
  refine z_fini (w' := fun (u7 : Unit) => [(am 0, .inr (9, mf0 am)), (am 25, .inl (cI, 5, .inl (fun _ => 0))), (am 33, .inl (cJ, 72, .inr (.inl (fun _ => 0)))), (am 34, .inl (cJ, 72, .inr (.inl (fun _ => 0)))), (am 35, .inl (cJ, 72, .inr (.inl (fun _ => 0))))]) (va_runV (As := []) (rest := []) ⟨hx, hb, hml, hown, hts⟩ (c_X9_groupsOf_200 l dC dI cB cI cJ cZ cP cQ am H.size) (cwV 0 hts gX9_manyOf_X9_groupsOf rfl rfl rfl (by decide +kernel) ⟨Nat.le_of_ble_eq_true rfl, Nat.le_of_ble_eq_true rfl⟩) (z_pV (ci := 9) hK hP hD zX_nil [0, 1, 2, 3, 4] (by decide) rfl rfl 0 rfl) rfl rfl hl.1 rfl (lv_room (Nat.le_of_ble_eq_true rfl)) dX9_manyOf_10 ⟨Nat.le_of_ble_eq_true rfl, Nat.le_of_ble_eq_true rfl⟩) hP hD hS hA [0, 1, 2, 3, 4] [] [0, 1, 2, 3, 4] rfl rfl (by decide) (by decide) (fun _ => rfl) (by decide) (fun r8 u7 H locs hp9 hP hD hS => ?_)
  have hP : va_P (dC, dI) vwCl [(am 0, .inr (9, mf0 am)), (am 25, .inl (cI, 5, .inl (fun _ => 0))), (am 33, .inl (cJ, 72, .inr (.inl (fun _ => 0)))), (am 34, .inl (cJ, 72, .inr (.inl (fun _ => 0)))), (am 35, .inl (cJ, 72, .inr (.inl (fun _ => 0))))] H := hP
  have hD : va_D A [(am 0, .inr (9, mf0 am)), (am 25, .inl (cI, 5, .inl (fun _ => 0))), (am 33, .inl (cJ, 72, .inr (.inl (fun _ => 0)))), (am 34, .inl (cJ, 72, .inr (.inl (fun _ => 0)))), (am 35, .inl (cJ, 72, .inr (.inl (fun _ => 0))))] := hD
  refine W.widen (k := 0) (n := 0) (by decide) (by decide) ?_
  obtain rfl : r8 = 0 := hp9
  refine lv_pop hx hb dX9_manyOf_13 rfl ?_
  refine lv_lconst (v := 0) hx hb dX9_manyOf_14 (by decide) ?_
  refine lv_lstore_n (lv' := [(1, .long 0), (0, .ref (am 0))]) hx hb dX9_manyOf_15 rfl hl (by decide) rfl (fun ls hl => ?_)
  refine lv_lconst (v := 0) hx hb dX9_manyOf_16 (by decide) ?_
  refine lv_lstore_n (lv' := [(3, .long 0), (1, .long 0), (0, .ref (am 0))]) hx hb dX9_manyOf_17 rfl hl (by decide) rfl (fun ls hl => ?_)
  refine lv_iconst (v := 0) hx hb dX9_manyOf_18 (by decide) ?_
  refine lv_istore (lv' := [(5, .int 0), (3, .long 0), (1, .long 0), (0, .ref (am 0))]) hx hb dX9_manyOf_19 hl (by decide) rfl (fun ls hl => ?_)
  have hlp10 : ∀ (n i : Nat), i + n = 72 → 0 ≤ i → ∀ (H : Heap) (locs : List Loc), va_P (dC, dI) vwCl [(am 0, .inr (9, mf0 am)), (am 25, .inl (cI, 5, .inl (fun _ => 0))), (am 33, .inl (cJ, 72, .inr (.inl (fun _ => 0)))), (am 34, .inl (cJ, 72, .inr (.inl (fun _ => 0)))), (am 35, .inl (cJ, 72, .inr (.inl (fun _ => 0))))] H → va_S A s.heap H locs → ∀ (ls : Array Slot), lv_has ls 6 [(5, .int (nI i)), (3, .long 0), (1, .long 0), (0, .ref (am 0))] → W p l e ({ frames := 1, cells := 0, slots := 0, locals := 24 } : Room) s m ([.ref (am 0)] : List Value).toArray below meth c H locs 0 0 Q (F0 m 21 ls []) := by
    intro n
    induction n with
    | zero =>
      intro i hi hi0 H locs hP hS ls hl
      obtain rfl : i = 72 := by omega
      have hl : lv_has ls 6 [(5, .int 72), (3, .long 0), (1, .long 0), (0, .ref (am 0))] := hl
      refine lv_iload hx hb dX9_manyOf_21 (lv_at hl 0 rfl) ?_
      refine lv_bipush (v := 72) hx hb dX9_manyOf_23 (by decide) ?_
      refine lv_icmp_ge (tgt := 101) hx hb dX9_manyOf_25 (by decide) (fun _ => ?_) (fun c => absurd (by decide) c)
      refine lv_aload_n hx hb dX9_manyOf_101 rfl (lv_at hl 3 rfl) ?_
      refine lv_aload_n hx hb dX9_manyOf_102 rfl (lv_at hl 3 rfl) ?_
      refine va_get (D := (dC, dI)) (ci := 9) (v := .long 0) (C := RX9) (T := TX9) (N := 60) hx hb hts hi9 hown hK hP 0 rfl rfl 45 (by decide) hk0 (fun _ h9 => h9) rfl dX9_manyOf_103 ?_
      refine lv_lload_n hx hb dX9_manyOf_106 rfl (lv_at hl 2 rfl) ?_
      refine lv_lmul hx hb dX9_manyOf_107 ?_
      refine z_topl (y := 0) (by decide +kernel) ?_
      refine lv_aload_n hx hb dX9_manyOf_108 rfl (lv_at hl 3 rfl) ?_
      refine va_get (D := (dC, dI)) (ci := 9) (v := .long 0) (C := RX9) (T := TX9) (N := 60) hx hb hts hi9 hown hK hP 0 rfl rfl 47 (by decide) hk1 (fun _ h9 => h9) rfl dX9_manyOf_109 ?_
      refine lv_aload_n hx hb dX9_manyOf_112 rfl (lv_at hl 3 rfl) ?_
      refine va_get (D := (dC, dI)) (ci := 9) (v := .long 0) (C := RX9) (T := TX9) (N := 60) hx hb hts hi9 hown hK hP 0 rfl rfl 49 (by decide) hk2 (fun _ h9 => h9) rfl dX9_manyOf_113 ?_
      refine lv_lmul hx hb dX9_manyOf_116 ?_
      refine z_topl (y := 0) (by decide +kernel) ?_
      refine lv_lsub hx hb dX9_manyOf_117 ?_
      refine z_topl (y := 0) (by decide +kernel) ?_
      refine lv_aload_n hx hb dX9_manyOf_118 rfl (lv_at hl 3 rfl) ?_
      refine va_get (D := (dC, dI)) (ci := 9) (v := .long 0) (C := RX9) (T := TX9) (N := 60) hx hb hts hi9 hown hK hP 0 rfl rfl 45 (by decide) hk0 (fun _ h9 => h9) rfl dX9_manyOf_119 ?_
      refine lv_lload_n hx hb dX9_manyOf_122 rfl (lv_at hl 1 rfl) ?_
      refine lv_lmul hx hb dX9_manyOf_123 ?_
      refine z_topl (y := 0) (by decide +kernel) ?_
      refine lv_aload_n hx hb dX9_manyOf_124 rfl (lv_at hl 3 rfl) ?_
      refine va_get (D := (dC, dI)) (ci := 9) (v := .long 0) (C := RX9) (T := TX9) (N := 60) hx hb hts hi9 hown hK hP 0 rfl rfl 47 (by decide) hk1 (fun _ h9 => h9) rfl dX9_manyOf_125 ?_
      refine lv_aload_n hx hb dX9_manyOf_128 rfl (lv_at hl 3 rfl) ?_
      refine va_get (D := (dC, dI)) (ci := 9) (v := .long 0) (C := RX9) (T := TX9) (N := 60) hx hb hts hi9 hown hK hP 0 rfl rfl 47 (by decide) hk1 (fun _ h9 => h9) rfl dX9_manyOf_129 ?_
      refine lv_lmul hx hb dX9_manyOf_132 ?_
      refine z_topl (y := 0) (by decide +kernel) ?_
      refine lv_lsub hx hb dX9_manyOf_133 ?_
      refine z_topl (y := 0) (by decide +kernel) ?_
      refine z_finl (w' := fun (u11 : Unit) => [(am 0, .inr (9, mf0 am)), (am 25, .inl (cI, 5, .inl (fun _ => 0))), (am 33, .inl (cJ, 72, .inr (.inl (fun _ => 0)))), (am 34, .inl (cJ, 72, .inr (.inl (fun _ => 0)))), (am 35, .inl (cJ, 72, .inr (.inl (fun _ => 0))))]) (va_runV (As := [.long 0, .long 0]) (rest := []) ⟨hx, hb, hml, hown, hts⟩ (c_X9_ratio_189 l dC dI cB cI cJ cZ cP cQ am H.size) (cwV 2 hts gX9_manyOf_X9_ratio rfl rfl rfl (by decide +kernel) ⟨Nat.le_of_ble_eq_true rfl, Nat.le_of_ble_eq_true rfl⟩) (z_pV (ci := 9) hK hP hD zX_nil [0] (by decide) rfl rfl 0 rfl) rfl rfl hl.1 rfl (lv_room (Nat.le_of_ble_eq_true rfl)) dX9_manyOf_134 ⟨Nat.le_of_ble_eq_true rfl, Nat.le_of_ble_eq_true rfl⟩) hP hD hS hA [0] [1, 2, 3, 4] [4, 0, 1, 2, 3] rfl rfl (by decide) (by decide) (fun _ => rfl) (by decide) (fun r12 u11 H locs hp13 hP hD hS => ?_)
      have hP : va_P (dC, dI) vwCl [(am 0, .inr (9, mf0 am)), (am 25, .inl (cI, 5, .inl (fun _ => 0))), (am 33, .inl (cJ, 72, .inr (.inl (fun _ => 0)))), (am 34, .inl (cJ, 72, .inr (.inl (fun _ => 0)))), (am 35, .inl (cJ, 72, .inr (.inl (fun _ => 0))))] H := hP
      have hD : va_D A [(am 0, .inr (9, mf0 am)), (am 25, .inl (cI, 5, .inl (fun _ => 0))), (am 33, .inl (cJ, 72, .inr (.inl (fun _ => 0)))), (am 34, .inl (cJ, 72, .inr (.inl (fun _ => 0)))), (am 35, .inl (cJ, 72, .inr (.inl (fun _ => 0))))] := hD
      refine W.widen (k := 0) (n := 0) (by decide) (by decide) ?_
      obtain rfl : r12 = (-2000000000) := hp13
      exact z_lret () hx hb hr hlocks hK hP hD hS hAe hQ rfl rfl dX9_manyOf_137
    | succ n ih =>
      intro i hi hi0 H locs hP hS ls hl
      have hlt : i < 72 := by omega
      refine lv_iload hx hb dX9_manyOf_21 (lv_at hl 0 rfl) ?_
      refine lv_bipush (v := 72) hx hb dX9_manyOf_23 (by decide) ?_
      refine lv_icmp_ge (tgt := 101) hx hb dX9_manyOf_25 (by decide) (fun c => absurd (show 72 ≤ (i : Int) from z_le (by decide) (nI_toInt (by omega)) c) (by omega)) (fun _ => ?_)
      refine lv_aload_n hx hb dX9_manyOf_28 rfl (lv_at hl 3 rfl) ?_
      refine va_get (D := (dC, dI)) (ci := 9) (v := .ref (am 33)) (C := RX9) (T := TX9) (N := 60) hx hb hts hi9 hown hK hP 0 rfl rfl 54 (by decide) hk3 (fun _ h9 => h9) rfl dX9_manyOf_29 ?_
      refine lv_iload hx hb dX9_manyOf_32 (lv_at hl 0 rfl) ?_
      refine va_lald hx hb hK hP 2 2 rfl rfl (z_in (nI_toInt (by omega)) (by omega) (by omega)) dX9_manyOf_34 ?_
      refine z_topl (y := 0) rfl ?_
      refine lv_lconst (v := 0) hx hb dX9_manyOf_35 (by decide) ?_
      refine W.lcmp hx hb dX9_manyOf_36 ?_
      refine z_topi (y := 0) (by decide +kernel) ?_
      refine lv_if_ne (tgt := 43) hx hb dX9_manyOf_37 (by decide) (fun c => absurd (by decide) c) (fun _ => ?_)
      refine lv_goto (tgt := 95) hx hb dX9_manyOf_40 (by decide) ?_
      refine lv_iinc (v := nI (i + 1)) (lv' := [(5, .int (nI (i + 1))), (3, .long 0), (1, .long 0), (0, .ref (am 0))]) hx hb dX9_manyOf_95 hl (k := 0) rfl (nI_1 i) (by decide) rfl (fun ls hl => ?_)
      refine lv_goto (tgt := 21) hx hb dX9_manyOf_98 (by decide) ?_
      exact ih (i + 1) (by omega) (by omega) _ _ hP hS ls (lv_sub hl [0, 1, 2, 3] rfl)
  exact hlp10 72 0 rfl (by omega) _ _ hP hS ls (lv_sub hl [0, 1, 2, 3] rfl)
set_option maxHeartbeats 4000000 in
set_option maxRecDepth 100000 in
theorem c_X9_many_200 (l : Launch) (dC : Nat → ClassId) (dI : Nat → Nat → Nat) (cB cI cJ cZ cP cQ : ClassId) (am : Nat → Nat) (sz : Nat) : Met l yX9_many wsX9_many ({ frames := 2, cells := 0, slots := 0, locals := 49 } : Room) (zPc [.ref (am 0)] (dC, dI) (zT cB cI cJ cZ cP cQ) [(am 0, .inr (9, mf0 am)), (am 25, .inl (cI, 5, .inl (fun _ => 0))), (am 33, .inl (cJ, 72, .inr (.inl (fun _ => 0)))), (am 34, .inl (cJ, 72, .inr (.inl (fun _ => 0)))), (am 35, .inl (cJ, 72, .inr (.inl (fun _ => 0))))] sz [] []) (va_Ql (fun r _ => (fun r => r = (-2000000000)) r) (zB (dC, dI) (zT cB cI cJ cZ cP cQ) (fun _ : Unit => []) [(am 0, .inr (9, mf0 am)), (am 25, .inl (cI, 5, .inl (fun _ => 0))), (am 33, .inl (cJ, 72, .inr (.inl (fun _ => 0)))), (am 34, .inl (cJ, 72, .inr (.inl (fun _ => 0)))), (am 35, .inl (cJ, 72, .inr (.inl (fun _ => 0))))] sz) (va_A [(am 0, .inr (9, mf0 am)), (am 25, .inl (cI, 5, .inl (fun _ => 0))), (am 33, .inl (cJ, 72, .inr (.inl (fun _ => 0)))), (am 34, .inl (cJ, 72, .inr (.inl (fun _ => 0)))), (am 35, .inl (cJ, 72, .inr (.inl (fun _ => 0))))] sz)) 0 0 (va_A [(am 0, .inr (9, mf0 am)), (am 25, .inl (cI, 5, .inl (fun _ => 0))), (am 33, .inl (cJ, 72, .inr (.inl (fun _ => 0)))), (am 34, .inl (cJ, 72, .inr (.inl (fun _ => 0)))), (am 35, .inl (cJ, 72, .inr (.inl (fun _ => 0))))] sz) := by
  refine z_enter (cc := cX9_many) (maxL := 1) (ret := (some .long)) (by decide) rfl (Nat.le_of_ble_eq_true rfl) ?_
  intro p e s m below meth c A ls Q H locs hx hb hr hml hown hts hlocks hin hK hP hD hA hX hS hAe hQ hl
  have hown : s.vm.findClass RX9 = some m.cls := hown
  have hi9 : ∀ w ∈ wsX90, w ∈ wsX9_many := fun w h => List.mem_cons_of_mem _ (List.mem_append_right _ h)
  have hk0 := hts (.fieldLink RX9 125 "MonthPushModel" "thrown" "I") (by decide +kernel)
  have hl : lv_has ls 1 [(0, .ref (am 0))] := hl
  refine lv_aload_n hx hb dX9_many_0 rfl (lv_at hl 0 rfl) ?_
  refine lv_iconst (v := 0) hx hb dX9_many_1 (by decide) ?_
  refine z_put0 (D := (dC, dI)) (ci := 9) (v := .int 0) (ty := .int) (C := RX9) (T := TX9) (N := 60) hx hb hts hi9 tyX9 tyX9_ok nmX9 hown hK hP hD hS 0 rfl rfl 0 (by decide) hk0 (fun _ h9 => h9) rfl (by decide +kernel) rfl rfl rfl dX9_many_2 (fun H locs hP hS => ?_)
  refine lv_aload_n hx hb dX9_many_5 rfl (lv_at hl 0 rfl) ?_
  refine z_finl (w' := fun (u1 : Unit) => [(am 0, .inr (9, mf0 am)), (am 25, .inl (cI, 5, .inl (fun _ => 0))), (am 33, .inl (cJ, 72, .inr (.inl (fun _ => 0)))), (am 34, .inl (cJ, 72, .inr (.inl (fun _ => 0)))), (am 35, .inl (cJ, 72, .inr (.inl (fun _ => 0))))]) (va_runV (As := []) (rest := []) ⟨hx, hb, hml, hown, hts⟩ (c_X9_manyOf_200 l dC dI cB cI cJ cZ cP cQ am H.size) (cwV 0 hts gX9_many_X9_manyOf rfl rfl rfl (by decide +kernel) ⟨Nat.le_of_ble_eq_true rfl, Nat.le_of_ble_eq_true rfl⟩) (z_pV (ci := 9) hK hP hD zX_nil [0, 1, 2, 3, 4] (by decide) rfl rfl 0 rfl) rfl rfl hl.1 rfl (lv_room (Nat.le_of_ble_eq_true rfl)) dX9_many_6 ⟨Nat.le_of_ble_eq_true rfl, Nat.le_of_ble_eq_true rfl⟩) hP hD hS hA [0, 1, 2, 3, 4] [] [0, 1, 2, 3, 4] rfl rfl (by decide) (by decide) (fun _ => rfl) (by decide) (fun r2 u1 H locs hp3 hP hD hS => ?_)
  have hP : va_P (dC, dI) vwCl [(am 0, .inr (9, mf0 am)), (am 25, .inl (cI, 5, .inl (fun _ => 0))), (am 33, .inl (cJ, 72, .inr (.inl (fun _ => 0)))), (am 34, .inl (cJ, 72, .inr (.inl (fun _ => 0)))), (am 35, .inl (cJ, 72, .inr (.inl (fun _ => 0))))] H := hP
  have hD : va_D A [(am 0, .inr (9, mf0 am)), (am 25, .inl (cI, 5, .inl (fun _ => 0))), (am 33, .inl (cJ, 72, .inr (.inl (fun _ => 0)))), (am 34, .inl (cJ, 72, .inr (.inl (fun _ => 0)))), (am 35, .inl (cJ, 72, .inr (.inl (fun _ => 0))))] := hD
  refine W.widen (k := 0) (n := 0) (by decide) (by decide) ?_
  obtain rfl : r2 = (-2000000000) := hp3
  have hP9 := hP.sub (ws' := []) [] rfl
  have hD9 := hD.sub (ws' := []) [] (by decide) rfl
  exact z_lret () hx hb hr hlocks hK hP9 hD9 hS hAe hQ rfl rfl dX9_many_9
set_option maxHeartbeats 4000000 in
set_option maxRecDepth 100000 in
theorem c_X9_groups_201 (l : Launch) (dC : Nat → ClassId) (dI : Nat → Nat → Nat) (cB cI cJ cZ cP cQ : ClassId) (am : Nat → Nat) (sz : Nat) : Met l yX9_groups wsX9_groups ({ frames := 1, cells := 0, slots := 0, locals := 22 } : Room) (zPc [.ref (am 0)] (dC, dI) (zT cB cI cJ cZ cP cQ) [(am 0, .inr (9, mf0 am)), (am 25, .inl (cI, 5, .inl (fun _ => 0))), (am 33, .inl (cJ, 72, .inr (.inl (fun _ => 0)))), (am 34, .inl (cJ, 72, .inr (.inl (fun _ => 0)))), (am 35, .inl (cJ, 72, .inr (.inl (fun _ => 0))))] sz [] []) (va_Qi (fun r _ => (fun r => r = 0) r) (zB (dC, dI) (zT cB cI cJ cZ cP cQ) (fun _ : Unit => []) [(am 0, .inr (9, mf0 am)), (am 25, .inl (cI, 5, .inl (fun _ => 0))), (am 33, .inl (cJ, 72, .inr (.inl (fun _ => 0)))), (am 34, .inl (cJ, 72, .inr (.inl (fun _ => 0)))), (am 35, .inl (cJ, 72, .inr (.inl (fun _ => 0))))] sz) (va_A [(am 0, .inr (9, mf0 am)), (am 25, .inl (cI, 5, .inl (fun _ => 0))), (am 33, .inl (cJ, 72, .inr (.inl (fun _ => 0)))), (am 34, .inl (cJ, 72, .inr (.inl (fun _ => 0)))), (am 35, .inl (cJ, 72, .inr (.inl (fun _ => 0))))] sz)) 0 0 (va_A [(am 0, .inr (9, mf0 am)), (am 25, .inl (cI, 5, .inl (fun _ => 0))), (am 33, .inl (cJ, 72, .inr (.inl (fun _ => 0)))), (am 34, .inl (cJ, 72, .inr (.inl (fun _ => 0)))), (am 35, .inl (cJ, 72, .inr (.inl (fun _ => 0))))] sz) := by
  refine z_enter (cc := cX9_groups) (maxL := 1) (ret := (some .int)) (by decide) rfl (Nat.le_of_ble_eq_true rfl) ?_
  intro p e s m below meth c A ls Q H locs hx hb hr hml hown hts hlocks hin hK hP hD hA hX hS hAe hQ hl
  have hown : s.vm.findClass RX9 = some m.cls := hown
  have hi9 : ∀ w ∈ wsX90, w ∈ wsX9_groups := fun w h => List.mem_cons_of_mem _ (List.mem_append_right _ h)
  have hk0 := hts (.fieldLink RX9 125 "MonthPushModel" "thrown" "I") (by decide +kernel)
  have hl : lv_has ls 1 [(0, .ref (am 0))] := hl
  refine lv_aload_n hx hb dX9_groups_0 rfl (lv_at hl 0 rfl) ?_
  refine lv_iconst (v := 0) hx hb dX9_groups_1 (by decide) ?_
  refine z_put0 (D := (dC, dI)) (ci := 9) (v := .int 0) (ty := .int) (C := RX9) (T := TX9) (N := 60) hx hb hts hi9 tyX9 tyX9_ok nmX9 hown hK hP hD hS 0 rfl rfl 0 (by decide) hk0 (fun _ h9 => h9) rfl (by decide +kernel) rfl rfl rfl dX9_groups_2 (fun H locs hP hS => ?_)
  refine lv_aload_n hx hb dX9_groups_5 rfl (lv_at hl 0 rfl) ?_
  refine z_fini (w' := fun (u1 : Unit) => [(am 0, .inr (9, mf0 am)), (am 25, .inl (cI, 5, .inl (fun _ => 0))), (am 33, .inl (cJ, 72, .inr (.inl (fun _ => 0)))), (am 34, .inl (cJ, 72, .inr (.inl (fun _ => 0)))), (am 35, .inl (cJ, 72, .inr (.inl (fun _ => 0))))]) (va_runV (As := []) (rest := []) ⟨hx, hb, hml, hown, hts⟩ (c_X9_groupsOf_200 l dC dI cB cI cJ cZ cP cQ am H.size) (cwV 0 hts gX9_groups_X9_groupsOf rfl rfl rfl (by decide +kernel) ⟨Nat.le_of_ble_eq_true rfl, Nat.le_of_ble_eq_true rfl⟩) (z_pV (ci := 9) hK hP hD zX_nil [0, 1, 2, 3, 4] (by decide) rfl rfl 0 rfl) rfl rfl hl.1 rfl (lv_room (Nat.le_of_ble_eq_true rfl)) dX9_groups_6 ⟨Nat.le_of_ble_eq_true rfl, Nat.le_of_ble_eq_true rfl⟩) hP hD hS hA [0, 1, 2, 3, 4] [] [0, 1, 2, 3, 4] rfl rfl (by decide) (by decide) (fun _ => rfl) (by decide) (fun r2 u1 H locs hp3 hP hD hS => ?_)
  have hP : va_P (dC, dI) vwCl [(am 0, .inr (9, mf0 am)), (am 25, .inl (cI, 5, .inl (fun _ => 0))), (am 33, .inl (cJ, 72, .inr (.inl (fun _ => 0)))), (am 34, .inl (cJ, 72, .inr (.inl (fun _ => 0)))), (am 35, .inl (cJ, 72, .inr (.inl (fun _ => 0))))] H := hP
  have hD : va_D A [(am 0, .inr (9, mf0 am)), (am 25, .inl (cI, 5, .inl (fun _ => 0))), (am 33, .inl (cJ, 72, .inr (.inl (fun _ => 0)))), (am 34, .inl (cJ, 72, .inr (.inl (fun _ => 0)))), (am 35, .inl (cJ, 72, .inr (.inl (fun _ => 0))))] := hD
  refine W.widen (k := 0) (n := 0) (by decide) (by decide) ?_
  obtain rfl : r2 = 0 := hp3
  have hP9 := hP.sub (ws' := []) [] rfl
  have hD9 := hD.sub (ws' := []) [] (by decide) rfl
  exact z_iret () hx hb hr hlocks hK hP9 hD9 hS hAe hQ rfl rfl dX9_groups_9
set_option maxHeartbeats 4000000 in
set_option maxRecDepth 100000 in
theorem c_X9_moves_202 (l : Launch) (dC : Nat → ClassId) (dI : Nat → Nat → Nat) (cB cI cJ cZ cP cQ : ClassId) (am : Nat → Nat) (sz : Nat) (p1 : Int32) : Met l yX9_moves wsX9_moves ({ frames := 2, cells := 0, slots := 0, locals := 45 } : Room) (zPc [.ref (am 0), .int p1] (dC, dI) (zT cB cI cJ cZ cP cQ) [(am 0, .inr (9, mf0 am)), (am 25, .inl (cI, 5, .inl (fun _ => 0)))] sz [] []) (va_Ql (fun r _ => (fun r => (r = (-2000000000) ∧ p1.toInt < 1) ∨ (r = (-2000000000) ∧ 1 ≤ p1.toInt ∧ 4094 < p1.toInt) ∨ (r = (-2000000000) ∧ 1 ≤ p1.toInt ∧ p1.toInt ≤ 4094)) r) (zB (dC, dI) (zT cB cI cJ cZ cP cQ) (fun _ : Unit => []) [(am 0, .inr (9, mf0 am)), (am 25, .inl (cI, 5, .inl (fun _ => 0)))] sz) (va_A [(am 0, .inr (9, mf0 am)), (am 25, .inl (cI, 5, .inl (fun _ => 0)))] sz)) 0 0 (va_A [(am 0, .inr (9, mf0 am)), (am 25, .inl (cI, 5, .inl (fun _ => 0)))] sz) := by
  refine z_enter (cc := cX9_moves) (maxL := 2) (ret := (some .long)) (by decide) rfl (Nat.le_of_ble_eq_true rfl) ?_
  intro p e s m below meth c A ls Q H locs hx hb hr hml hown hts hlocks hin hK hP hD hA hX hS hAe hQ hl
  have hown : s.vm.findClass RX9 = some m.cls := hown
  have hi9 : ∀ w ∈ wsX90, w ∈ wsX9_moves := fun w h => List.mem_cons_of_mem _ (List.mem_append_right _ h)
  have hk0 := hts (.fieldLink RX9 125 "MonthPushModel" "thrown" "I") (by decide +kernel)
  have hk1 := hts (.constantLong RX9 408 (-2000000000)) (by decide +kernel)
  have hl : lv_has ls 2 [(0, .ref (am 0)), (1, .int p1)] := hl
  refine lv_aload_n hx hb dX9_moves_0 rfl (lv_at hl 0 rfl) ?_
  refine lv_iconst (v := 0) hx hb dX9_moves_1 (by decide) ?_
  refine z_put0 (D := (dC, dI)) (ci := 9) (v := .int 0) (ty := .int) (C := RX9) (T := TX9) (N := 60) hx hb hts hi9 tyX9 tyX9_ok nmX9 hown hK hP hD hS 0 rfl rfl 0 (by decide) hk0 (fun _ h9 => h9) rfl (by decide +kernel) rfl rfl rfl dX9_moves_2 (fun H locs hP hS => ?_)
  refine lv_iload_n hx hb dX9_moves_5 rfl (lv_at hl 1 rfl) ?_
  refine z_fini (w' := fun (u1 : Unit) => [(am 0, .inr (9, mf0 am)), (am 25, .inl (cI, 5, .inl (fun _ => 0)))]) (va_runS (As := [.int p1]) (rest := []) ⟨hx, hb, hml, hown, hts⟩ (c_X9_isPush_193 l dC dI cB cI cJ cZ cP cQ H.size p1) (va_cwS 1 hts gX9_moves_X9_isPush rfl rfl rfl (by decide +kernel) ⟨Nat.le_of_ble_eq_true rfl, Nat.le_of_ble_eq_true rfl⟩) (z_pS hK hP hD zX_nil [] (by decide) rfl) rfl rfl hl.1 rfl (lv_room (Nat.le_of_ble_eq_true rfl)) dX9_moves_6 ⟨Nat.le_of_ble_eq_true rfl, Nat.le_of_ble_eq_true rfl⟩) hP hD hS hA [] [0, 1] [0, 1] rfl rfl (by decide) (by decide) (fun _ => rfl) (by decide) (fun r2 u1 H locs hp3 hP hD hS => ?_)
  have hP : va_P (dC, dI) vwCl [(am 0, .inr (9, mf0 am)), (am 25, .inl (cI, 5, .inl (fun _ => 0)))] H := hP
  have hD : va_D A [(am 0, .inr (9, mf0 am)), (am 25, .inl (cI, 5, .inl (fun _ => 0)))] := hD
  refine W.widen (k := 0) (n := 0) (by decide) (by decide) ?_
  rcases hp3 with ⟨rfl, f4⟩ | ⟨rfl, f5, f6⟩ | ⟨rfl, f7, f8⟩
  · refine lv_if_ne (tgt := 16) hx hb dX9_moves_9 (by decide) (fun c => absurd (by decide) c) (fun _ => ?_)
    refine lv_ldc2 hx hb hown hk1 dX9_moves_12 ?_
    have hP9 := hP.sub (ws' := []) [] rfl
    have hD9 := hD.sub (ws' := []) [] (by decide) rfl
    exact z_lret () hx hb hr hlocks hK hP9 hD9 hS hAe hQ rfl (Or.inl (⟨rfl, f4⟩)) dX9_moves_15
  · refine lv_if_ne (tgt := 16) hx hb dX9_moves_9 (by decide) (fun c => absurd (by decide) c) (fun _ => ?_)
    refine lv_ldc2 hx hb hown hk1 dX9_moves_12 ?_
    have hP9 := hP.sub (ws' := []) [] rfl
    have hD9 := hD.sub (ws' := []) [] (by decide) rfl
    exact z_lret () hx hb hr hlocks hK hP9 hD9 hS hAe hQ rfl (Or.inr (Or.inl ⟨rfl, f5, f6⟩)) dX9_moves_15
  · refine lv_if_ne (tgt := 16) hx hb dX9_moves_9 (by decide) (fun _ => ?_) (fun c => absurd c (by decide))
    refine lv_aload_n hx hb dX9_moves_16 rfl (lv_at hl 0 rfl) ?_
    refine lv_iload_n hx hb dX9_moves_17 rfl (lv_at hl 1 rfl) ?_
    refine z_finv (w' := fun (u9 : Unit) => [(am 0, .inr (9, mf0 am)), (am 25, .inl (cI, 5, .inl (fun _ => 0)))]) (va_runV (As := [.int p1]) (rest := []) ⟨hx, hb, hml, hown, hts⟩ (c_X9_pushes_195 l dC dI cB cI cJ cZ cP cQ am H.size p1) (cwV 1 hts gX9_moves_X9_pushes rfl rfl rfl (by decide +kernel) ⟨Nat.le_of_ble_eq_true rfl, Nat.le_of_ble_eq_true rfl⟩) (z_pV (ci := 9) hK hP hD zX_nil [0, 1] (by decide) rfl rfl 0 rfl) rfl rfl hl.1 rfl (lv_room (Nat.le_of_ble_eq_true rfl)) dX9_moves_18 ⟨Nat.le_of_ble_eq_true rfl, Nat.le_of_ble_eq_true rfl⟩) hP hD hS hA [0, 1] [] [0, 1] rfl rfl (by decide) (by decide) (fun _ => rfl) (by decide) (fun u9 H locs hp11 hP hD hS => ?_)
    have hP : va_P (dC, dI) vwCl [(am 0, .inr (9, mf0 am)), (am 25, .inl (cI, 5, .inl (fun _ => 0)))] H := hP
    have hD : va_D A [(am 0, .inr (9, mf0 am)), (am 25, .inl (cI, 5, .inl (fun _ => 0)))] := hD
    refine W.widen (k := 0) (n := 0) (by decide) (by decide) ?_
    refine lv_aload_n hx hb dX9_moves_21 rfl (lv_at hl 0 rfl) ?_
    refine z_finv (w' := fun (u12 : Unit) => [(am 0, .inr (9, mf0 am)), (am 25, .inl (cI, 5, .inl (fun _ => 0)))]) (va_runV (As := []) (rest := []) ⟨hx, hb, hml, hown, hts⟩ (c_X9_gathers_188 l dC dI cB cI cJ cZ cP cQ am H.size) (cwV 0 hts gX9_moves_X9_gathers rfl rfl rfl (by decide +kernel) ⟨Nat.le_of_ble_eq_true rfl, Nat.le_of_ble_eq_true rfl⟩) (z_pV (ci := 9) hK hP hD zX_nil [0] (by decide) rfl rfl 0 rfl) rfl rfl hl.1 rfl (lv_room (Nat.le_of_ble_eq_true rfl)) dX9_moves_22 ⟨Nat.le_of_ble_eq_true rfl, Nat.le_of_ble_eq_true rfl⟩) hP hD hS hA [0] [1] [1, 0] rfl rfl (by decide) (by decide) (fun _ => rfl) (by decide) (fun u12 H locs hp14 hP hD hS => ?_)
    have hP : va_P (dC, dI) vwCl [(am 0, .inr (9, mf0 am)), (am 25, .inl (cI, 5, .inl (fun _ => 0)))] H := hP
    have hD : va_D A [(am 0, .inr (9, mf0 am)), (am 25, .inl (cI, 5, .inl (fun _ => 0)))] := hD
    refine W.widen (k := 0) (n := 0) (by decide) (by decide) ?_
    refine lv_aload_n hx hb dX9_moves_25 rfl (lv_at hl 0 rfl) ?_
    refine z_fini (w' := fun (u15 : Unit) => [(am 0, .inr (9, mf0 am)), (am 25, .inl (cI, 5, .inl (fun _ => 0)))]) (va_runV (As := []) (rest := []) ⟨hx, hb, hml, hown, hts⟩ (c_X9_areBoth_197 l dC dI cB cI cJ cZ cP cQ am H.size) (cwV 0 hts gX9_moves_X9_areBoth rfl rfl rfl (by decide +kernel) ⟨Nat.le_of_ble_eq_true rfl, Nat.le_of_ble_eq_true rfl⟩) (z_pV (ci := 9) hK hP hD zX_nil [0] (by decide) rfl rfl 0 rfl) rfl rfl hl.1 rfl (lv_room (Nat.le_of_ble_eq_true rfl)) dX9_moves_26 ⟨Nat.le_of_ble_eq_true rfl, Nat.le_of_ble_eq_true rfl⟩) hP hD hS hA [0] [1] [1, 0] rfl rfl (by decide) (by decide) (fun _ => rfl) (by decide) (fun r16 u15 H locs hp17 hP hD hS => ?_)
    have hP : va_P (dC, dI) vwCl [(am 0, .inr (9, mf0 am)), (am 25, .inl (cI, 5, .inl (fun _ => 0)))] H := hP
    have hD : va_D A [(am 0, .inr (9, mf0 am)), (am 25, .inl (cI, 5, .inl (fun _ => 0)))] := hD
    refine W.widen (k := 0) (n := 0) (by decide) (by decide) ?_
    obtain rfl : r16 = 0 := hp17
    refine lv_if_eq (tgt := 67) hx hb dX9_moves_29 (by decide) (fun _ => ?_) (fun c => absurd (by decide) c)
    refine lv_ldc2 hx hb hown hk1 dX9_moves_67 ?_
    have hP9 := hP.sub (ws' := []) [] rfl
    have hD9 := hD.sub (ws' := []) [] (by decide) rfl
    exact z_lret () hx hb hr hlocks hK hP9 hD9 hS hAe hQ rfl (Or.inr (Or.inr ⟨rfl, f7, f8⟩)) dX9_moves_70
set_option maxHeartbeats 4000000 in
set_option maxRecDepth 100000 in
theorem c_X9_leak_203 (l : Launch) (dC : Nat → ClassId) (dI : Nat → Nat → Nat) (cB cI cJ cZ cP cQ : ClassId) (am : Nat → Nat) (sz : Nat) (p1 : Int32) : Met l yX9_leak wsX9_leak ({ frames := 2, cells := 0, slots := 0, locals := 45 } : Room) (zPc [.ref (am 0), .int p1] (dC, dI) (zT cB cI cJ cZ cP cQ) [(am 0, .inr (9, mf0 am)), (am 25, .inl (cI, 5, .inl (fun _ => 0)))] sz [] []) (va_Ql (fun r _ => (fun r => (r = (-2000000000) ∧ p1.toInt < 1) ∨ (r = (-2000000000) ∧ 1 ≤ p1.toInt ∧ 4094 < p1.toInt) ∨ (r = (-2000000000) ∧ 1 ≤ p1.toInt ∧ p1.toInt ≤ 4094)) r) (zB (dC, dI) (zT cB cI cJ cZ cP cQ) (fun _ : Unit => []) [(am 0, .inr (9, mf0 am)), (am 25, .inl (cI, 5, .inl (fun _ => 0)))] sz) (va_A [(am 0, .inr (9, mf0 am)), (am 25, .inl (cI, 5, .inl (fun _ => 0)))] sz)) 0 0 (va_A [(am 0, .inr (9, mf0 am)), (am 25, .inl (cI, 5, .inl (fun _ => 0)))] sz) := by
  refine z_enter (cc := cX9_leak) (maxL := 2) (ret := (some .long)) (by decide) rfl (Nat.le_of_ble_eq_true rfl) ?_
  intro p e s m below meth c A ls Q H locs hx hb hr hml hown hts hlocks hin hK hP hD hA hX hS hAe hQ hl
  have hown : s.vm.findClass RX9 = some m.cls := hown
  have hi9 : ∀ w ∈ wsX90, w ∈ wsX9_leak := fun w h => List.mem_cons_of_mem _ (List.mem_append_right _ h)
  have hk0 := hts (.fieldLink RX9 125 "MonthPushModel" "thrown" "I") (by decide +kernel)
  have hk1 := hts (.constantLong RX9 408 (-2000000000)) (by decide +kernel)
  have hl : lv_has ls 2 [(0, .ref (am 0)), (1, .int p1)] := hl
  refine lv_aload_n hx hb dX9_leak_0 rfl (lv_at hl 0 rfl) ?_
  refine lv_iconst (v := 0) hx hb dX9_leak_1 (by decide) ?_
  refine z_put0 (D := (dC, dI)) (ci := 9) (v := .int 0) (ty := .int) (C := RX9) (T := TX9) (N := 60) hx hb hts hi9 tyX9 tyX9_ok nmX9 hown hK hP hD hS 0 rfl rfl 0 (by decide) hk0 (fun _ h9 => h9) rfl (by decide +kernel) rfl rfl rfl dX9_leak_2 (fun H locs hP hS => ?_)
  refine lv_iload_n hx hb dX9_leak_5 rfl (lv_at hl 1 rfl) ?_
  refine z_fini (w' := fun (u1 : Unit) => [(am 0, .inr (9, mf0 am)), (am 25, .inl (cI, 5, .inl (fun _ => 0)))]) (va_runS (As := [.int p1]) (rest := []) ⟨hx, hb, hml, hown, hts⟩ (c_X9_isPush_193 l dC dI cB cI cJ cZ cP cQ H.size p1) (va_cwS 1 hts gX9_leak_X9_isPush rfl rfl rfl (by decide +kernel) ⟨Nat.le_of_ble_eq_true rfl, Nat.le_of_ble_eq_true rfl⟩) (z_pS hK hP hD zX_nil [] (by decide) rfl) rfl rfl hl.1 rfl (lv_room (Nat.le_of_ble_eq_true rfl)) dX9_leak_6 ⟨Nat.le_of_ble_eq_true rfl, Nat.le_of_ble_eq_true rfl⟩) hP hD hS hA [] [0, 1] [0, 1] rfl rfl (by decide) (by decide) (fun _ => rfl) (by decide) (fun r2 u1 H locs hp3 hP hD hS => ?_)
  have hP : va_P (dC, dI) vwCl [(am 0, .inr (9, mf0 am)), (am 25, .inl (cI, 5, .inl (fun _ => 0)))] H := hP
  have hD : va_D A [(am 0, .inr (9, mf0 am)), (am 25, .inl (cI, 5, .inl (fun _ => 0)))] := hD
  refine W.widen (k := 0) (n := 0) (by decide) (by decide) ?_
  rcases hp3 with ⟨rfl, f4⟩ | ⟨rfl, f5, f6⟩ | ⟨rfl, f7, f8⟩
  · refine lv_if_ne (tgt := 16) hx hb dX9_leak_9 (by decide) (fun c => absurd (by decide) c) (fun _ => ?_)
    refine lv_ldc2 hx hb hown hk1 dX9_leak_12 ?_
    have hP9 := hP.sub (ws' := []) [] rfl
    have hD9 := hD.sub (ws' := []) [] (by decide) rfl
    exact z_lret () hx hb hr hlocks hK hP9 hD9 hS hAe hQ rfl (Or.inl (⟨rfl, f4⟩)) dX9_leak_15
  · refine lv_if_ne (tgt := 16) hx hb dX9_leak_9 (by decide) (fun c => absurd (by decide) c) (fun _ => ?_)
    refine lv_ldc2 hx hb hown hk1 dX9_leak_12 ?_
    have hP9 := hP.sub (ws' := []) [] rfl
    have hD9 := hD.sub (ws' := []) [] (by decide) rfl
    exact z_lret () hx hb hr hlocks hK hP9 hD9 hS hAe hQ rfl (Or.inr (Or.inl ⟨rfl, f5, f6⟩)) dX9_leak_15
  · refine lv_if_ne (tgt := 16) hx hb dX9_leak_9 (by decide) (fun _ => ?_) (fun c => absurd c (by decide))
    refine lv_aload_n hx hb dX9_leak_16 rfl (lv_at hl 0 rfl) ?_
    refine lv_iload_n hx hb dX9_leak_17 rfl (lv_at hl 1 rfl) ?_
    refine z_finv (w' := fun (u9 : Unit) => [(am 0, .inr (9, mf0 am)), (am 25, .inl (cI, 5, .inl (fun _ => 0)))]) (va_runV (As := [.int p1]) (rest := []) ⟨hx, hb, hml, hown, hts⟩ (c_X9_pushes_195 l dC dI cB cI cJ cZ cP cQ am H.size p1) (cwV 1 hts gX9_leak_X9_pushes rfl rfl rfl (by decide +kernel) ⟨Nat.le_of_ble_eq_true rfl, Nat.le_of_ble_eq_true rfl⟩) (z_pV (ci := 9) hK hP hD zX_nil [0, 1] (by decide) rfl rfl 0 rfl) rfl rfl hl.1 rfl (lv_room (Nat.le_of_ble_eq_true rfl)) dX9_leak_18 ⟨Nat.le_of_ble_eq_true rfl, Nat.le_of_ble_eq_true rfl⟩) hP hD hS hA [0, 1] [] [0, 1] rfl rfl (by decide) (by decide) (fun _ => rfl) (by decide) (fun u9 H locs hp11 hP hD hS => ?_)
    have hP : va_P (dC, dI) vwCl [(am 0, .inr (9, mf0 am)), (am 25, .inl (cI, 5, .inl (fun _ => 0)))] H := hP
    have hD : va_D A [(am 0, .inr (9, mf0 am)), (am 25, .inl (cI, 5, .inl (fun _ => 0)))] := hD
    refine W.widen (k := 0) (n := 0) (by decide) (by decide) ?_
    refine lv_aload_n hx hb dX9_leak_21 rfl (lv_at hl 0 rfl) ?_
    refine z_finv (w' := fun (u12 : Unit) => [(am 0, .inr (9, mf0 am)), (am 25, .inl (cI, 5, .inl (fun _ => 0)))]) (va_runV (As := []) (rest := []) ⟨hx, hb, hml, hown, hts⟩ (c_X9_gathers_188 l dC dI cB cI cJ cZ cP cQ am H.size) (cwV 0 hts gX9_leak_X9_gathers rfl rfl rfl (by decide +kernel) ⟨Nat.le_of_ble_eq_true rfl, Nat.le_of_ble_eq_true rfl⟩) (z_pV (ci := 9) hK hP hD zX_nil [0] (by decide) rfl rfl 0 rfl) rfl rfl hl.1 rfl (lv_room (Nat.le_of_ble_eq_true rfl)) dX9_leak_22 ⟨Nat.le_of_ble_eq_true rfl, Nat.le_of_ble_eq_true rfl⟩) hP hD hS hA [0] [1] [1, 0] rfl rfl (by decide) (by decide) (fun _ => rfl) (by decide) (fun u12 H locs hp14 hP hD hS => ?_)
    have hP : va_P (dC, dI) vwCl [(am 0, .inr (9, mf0 am)), (am 25, .inl (cI, 5, .inl (fun _ => 0)))] H := hP
    have hD : va_D A [(am 0, .inr (9, mf0 am)), (am 25, .inl (cI, 5, .inl (fun _ => 0)))] := hD
    refine W.widen (k := 0) (n := 0) (by decide) (by decide) ?_
    refine lv_aload_n hx hb dX9_leak_25 rfl (lv_at hl 0 rfl) ?_
    refine z_fini (w' := fun (u15 : Unit) => [(am 0, .inr (9, mf0 am)), (am 25, .inl (cI, 5, .inl (fun _ => 0)))]) (va_runV (As := []) (rest := []) ⟨hx, hb, hml, hown, hts⟩ (c_X9_areBoth_197 l dC dI cB cI cJ cZ cP cQ am H.size) (cwV 0 hts gX9_leak_X9_areBoth rfl rfl rfl (by decide +kernel) ⟨Nat.le_of_ble_eq_true rfl, Nat.le_of_ble_eq_true rfl⟩) (z_pV (ci := 9) hK hP hD zX_nil [0] (by decide) rfl rfl 0 rfl) rfl rfl hl.1 rfl (lv_room (Nat.le_of_ble_eq_true rfl)) dX9_leak_26 ⟨Nat.le_of_ble_eq_true rfl, Nat.le_of_ble_eq_true rfl⟩) hP hD hS hA [0] [1] [1, 0] rfl rfl (by decide) (by decide) (fun _ => rfl) (by decide) (fun r16 u15 H locs hp17 hP hD hS => ?_)
    have hP : va_P (dC, dI) vwCl [(am 0, .inr (9, mf0 am)), (am 25, .inl (cI, 5, .inl (fun _ => 0)))] H := hP
    have hD : va_D A [(am 0, .inr (9, mf0 am)), (am 25, .inl (cI, 5, .inl (fun _ => 0)))] := hD
    refine W.widen (k := 0) (n := 0) (by decide) (by decide) ?_
    obtain rfl : r16 = 0 := hp17
    refine lv_if_eq (tgt := 67) hx hb dX9_leak_29 (by decide) (fun _ => ?_) (fun c => absurd (by decide) c)
    refine lv_ldc2 hx hb hown hk1 dX9_leak_67 ?_
    have hP9 := hP.sub (ws' := []) [] rfl
    have hD9 := hD.sub (ws' := []) [] (by decide) rfl
    exact z_lret () hx hb hr hlocks hK hP9 hD9 hS hAe hQ rfl (Or.inr (Or.inr ⟨rfl, f7, f8⟩)) dX9_leak_70
