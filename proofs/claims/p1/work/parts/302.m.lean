set_option maxHeartbeats 4000000 in
set_option maxRecDepth 100000 in
theorem c_X8_leanOf_95 (l : Launch) (dC : Nat → ClassId) (dI : Nat → Nat → Nat) (cB cI cJ cZ cP cQ : ClassId) (ad : Nat → Nat) (sz : Nat) (p1 : Int32) (p2 : Int32) : Met l yX8_leanOf wsX8_leanOf ({ frames := 4, cells := 0, slots := 0, locals := 96 } : Room) (zPc [.ref (ad 0), .int p1, .int p2] (dC, dI) (zT cB cI cJ cZ cP cQ) [(ad 0, .inr (8, xf0 ad)), (ad 23, .inr (5, xf23 ad)), (ad 38, .inr (6, xf38 ad)), (ad 39, .inr (1, xf39 ad)), (ad 40, .inl (cJ, 72, .inr (.inl (fun _ => 0)))), (ad 41, .inl (cJ, 72, .inr (.inl (fun _ => 0)))), (ad 42, .inl (cJ, 72, .inr (.inl (fun _ => 0))))] sz [(RX1, 44, yX8_thousandths, "MonthPush")] []) (va_Ql (fun r _ => (fun r => (r = (-9000000000000000000) ∧ p1.toInt = 0) ∨ (r = (-9000000000000000000) ∧ p1.toInt = 1 ∧ p2.toInt < 1) ∨ (r = (-9000000000000000000) ∧ p1.toInt = 1 ∧ 1 ≤ p2.toInt ∧ 4094 < p2.toInt) ∨ (r = (-9000000000000000000) ∧ p1.toInt = 1 ∧ 1 ≤ p2.toInt ∧ p2.toInt ≤ 4094) ∨ (r = (-9000000000000000000) ∧ p1.toInt = 2) ∨ (r = (-9000000000000000000) ∧ (p1.toInt < 0 ∨ 2 < p1.toInt))) r) (zB (dC, dI) (zT cB cI cJ cZ cP cQ) (fun _ : Unit => [(ad 0, .inr (8, xf0 ad)), (ad 23, .inr (5, xf23 ad)), (ad 38, .inr (6, xf38 ad)), (ad 39, .inr (1, xf39 ad)), (ad 40, .inl (cJ, 72, .inr (.inl (fun _ => 0)))), (ad 41, .inl (cJ, 72, .inr (.inl (fun _ => 0)))), (ad 42, .inl (cJ, 72, .inr (.inl (fun _ => 0))))]) [(ad 0, .inr (8, xf0 ad)), (ad 23, .inr (5, xf23 ad)), (ad 38, .inr (6, xf38 ad)), (ad 39, .inr (1, xf39 ad)), (ad 40, .inl (cJ, 72, .inr (.inl (fun _ => 0)))), (ad 41, .inl (cJ, 72, .inr (.inl (fun _ => 0)))), (ad 42, .inl (cJ, 72, .inr (.inl (fun _ => 0))))] sz) (va_A [(ad 0, .inr (8, xf0 ad)), (ad 23, .inr (5, xf23 ad)), (ad 38, .inr (6, xf38 ad)), (ad 39, .inr (1, xf39 ad)), (ad 40, .inl (cJ, 72, .inr (.inl (fun _ => 0)))), (ad 41, .inl (cJ, 72, .inr (.inl (fun _ => 0)))), (ad 42, .inl (cJ, 72, .inr (.inl (fun _ => 0))))] sz)) 0 0 (va_A [(ad 0, .inr (8, xf0 ad)), (ad 23, .inr (5, xf23 ad)), (ad 38, .inr (6, xf38 ad)), (ad 39, .inr (1, xf39 ad)), (ad 40, .inl (cJ, 72, .inr (.inl (fun _ => 0)))), (ad 41, .inl (cJ, 72, .inr (.inl (fun _ => 0)))), (ad 42, .inl (cJ, 72, .inr (.inl (fun _ => 0))))] sz) := by
  refine z_enter (cc := cX8_leanOf) (maxL := 7) (ret := (some .long)) (by decide) rfl (Nat.le_of_ble_eq_true rfl) ?_
  intro p e s m below meth c A ls Q H locs hx hb hr hml hown hts hlocks hin hK hP hD hA hX hS hAe hQ hl
  have hown : s.vm.findClass RX8 = some m.cls := hown
  have hi8 : ∀ w ∈ wsX80, w ∈ wsX8_leanOf := fun w h => List.mem_cons_of_mem _ (List.mem_append_left _ (List.mem_append_left _ (List.mem_append_left _ (List.mem_append_left _ (List.mem_append_right _ h)))))
  have hk0 := hts (.fieldLink RX8 29 "MonthPush" "all" "LMonthPush$Sheets;") (by decide +kernel)
  have hk1 := hts (.constantLong RX8 282 (-9000000000000000000)) (by decide +kernel)
  have hl : lv_has ls 7 [(0, .ref (ad 0)), (1, .int p1), (2, .int p2)] := hl
  refine lv_aload_n hx hb dX8_leanOf_0 rfl (lv_at hl 0 rfl) ?_
  refine lv_iload_n hx hb dX8_leanOf_1 rfl (lv_at hl 1 rfl) ?_
  refine lv_iload_n hx hb dX8_leanOf_2 rfl (lv_at hl 2 rfl) ?_
  refine z_finl (w' := fun (u1 : Unit) => [(ad 0, .inr (8, xf0 ad)), (ad 23, .inr (5, xf23 ad)), (ad 38, .inr (6, xf38 ad)), (ad 39, .inr (1, xf39 ad)), (ad 40, .inl (cJ, 72, .inr (.inl (fun _ => 0)))), (ad 41, .inl (cJ, 72, .inr (.inl (fun _ => 0)))), (ad 42, .inl (cJ, 72, .inr (.inl (fun _ => 0))))]) (va_runV (As := [.int p1, .int p2]) (rest := []) ⟨hx, hb, hml, hown, hts⟩ (c_X8_estimateOf_95 l dC dI cB cI cJ cZ cP cQ ad H.size p1 p2) (cwV 2 hts gX8_leanOf_X8_estimateOf rfl rfl rfl (by decide +kernel) ⟨Nat.le_of_ble_eq_true rfl, Nat.le_of_ble_eq_true rfl⟩) (z_pV (ci := 8) hK hP hD (zX_sub hX (by decide +kernel) (by decide +kernel)) [0, 1, 2, 3, 4, 5, 6] (by decide) rfl rfl 0 rfl) rfl rfl hl.1 rfl (lv_room (Nat.le_of_ble_eq_true rfl)) dX8_leanOf_3 ⟨Nat.le_of_ble_eq_true rfl, Nat.le_of_ble_eq_true rfl⟩) hP hD hS hA [0, 1, 2, 3, 4, 5, 6] [] [0, 1, 2, 3, 4, 5, 6] rfl rfl (by decide) (by decide) (fun _ => rfl) (by decide) (fun r2 u1 H locs hp3 hP hD hS => ?_)
  have hP : va_P (dC, dI) vwCl [(ad 0, .inr (8, xf0 ad)), (ad 23, .inr (5, xf23 ad)), (ad 38, .inr (6, xf38 ad)), (ad 39, .inr (1, xf39 ad)), (ad 40, .inl (cJ, 72, .inr (.inl (fun _ => 0)))), (ad 41, .inl (cJ, 72, .inr (.inl (fun _ => 0)))), (ad 42, .inl (cJ, 72, .inr (.inl (fun _ => 0))))] H := hP
  have hD : va_D A [(ad 0, .inr (8, xf0 ad)), (ad 23, .inr (5, xf23 ad)), (ad 38, .inr (6, xf38 ad)), (ad 39, .inr (1, xf39 ad)), (ad 40, .inl (cJ, 72, .inr (.inl (fun _ => 0)))), (ad 41, .inl (cJ, 72, .inr (.inl (fun _ => 0)))), (ad 42, .inl (cJ, 72, .inr (.inl (fun _ => 0))))] := hD
  refine W.widen (k := 0) (n := 0) (by decide) (by decide) ?_
  rcases hp3 with ⟨rfl, f4⟩ | ⟨rfl, f5, f6⟩ | ⟨rfl, f7, f8, f9⟩ | ⟨rfl, f10, f11, f12⟩ | ⟨rfl, f13⟩ | ⟨rfl, f14⟩
  · refine lv_lstore_n (lv' := [(3, .long (-9000000000000000000)), (0, .ref (ad 0)), (1, .int p1), (2, .int p2)]) hx hb dX8_leanOf_6 rfl hl (by decide) rfl (fun ls hl => ?_)
    refine lv_aload_n hx hb dX8_leanOf_7 rfl (lv_at hl 1 rfl) ?_
    refine lv_aload_n hx hb dX8_leanOf_8 rfl (lv_at hl 1 rfl) ?_
    refine va_get (D := (dC, dI)) (ci := 8) (v := .ref (ad 23)) (C := RX8) (T := TX8) (N := 10) hx hb hts hi8 hown hK hP 0 rfl rfl 3 (by decide) hk0 (fun _ h9 => h9) rfl dX8_leanOf_9 ?_
    refine lv_iconst (v := 1) hx hb dX8_leanOf_12 (by decide) ?_
    refine z_finl (w' := fun (u15 : Unit) => [(ad 0, .inr (8, xf0 ad)), (ad 23, .inr (5, xf23 ad)), (ad 38, .inr (6, xf38 ad)), (ad 39, .inr (1, xf39 ad)), (ad 40, .inl (cJ, 72, .inr (.inl (fun _ => 0)))), (ad 41, .inl (cJ, 72, .inr (.inl (fun _ => 0)))), (ad 42, .inl (cJ, 72, .inr (.inl (fun _ => 0))))]) (va_runV (As := [.ref (ad 23), .int 1]) (rest := []) ⟨hx, hb, hml, hown, hts⟩ (c_X8_truthOf_92 l dC dI cB cI cJ cZ cP cQ ad H.size) (cwV 2 hts gX8_leanOf_X8_truthOf rfl rfl rfl (by decide +kernel) ⟨Nat.le_of_ble_eq_true rfl, Nat.le_of_ble_eq_true rfl⟩) (z_pV (ci := 8) hK hP hD zX_nil [0, 1] (by decide) rfl rfl 0 rfl) rfl rfl hl.1 rfl (lv_room (Nat.le_of_ble_eq_true rfl)) dX8_leanOf_13 ⟨Nat.le_of_ble_eq_true rfl, Nat.le_of_ble_eq_true rfl⟩) hP hD hS hA [0, 1] [2, 3, 4, 5, 6] [5, 6, 0, 1, 2, 3, 4] rfl rfl (by decide) (by decide) (fun _ => rfl) (by decide) (fun r16 u15 H locs hp17 hP hD hS => ?_)
    have hP : va_P (dC, dI) vwCl [(ad 0, .inr (8, xf0 ad)), (ad 23, .inr (5, xf23 ad)), (ad 38, .inr (6, xf38 ad)), (ad 39, .inr (1, xf39 ad)), (ad 40, .inl (cJ, 72, .inr (.inl (fun _ => 0)))), (ad 41, .inl (cJ, 72, .inr (.inl (fun _ => 0)))), (ad 42, .inl (cJ, 72, .inr (.inl (fun _ => 0))))] H := hP
    have hD : va_D A [(ad 0, .inr (8, xf0 ad)), (ad 23, .inr (5, xf23 ad)), (ad 38, .inr (6, xf38 ad)), (ad 39, .inr (1, xf39 ad)), (ad 40, .inl (cJ, 72, .inr (.inl (fun _ => 0)))), (ad 41, .inl (cJ, 72, .inr (.inl (fun _ => 0)))), (ad 42, .inl (cJ, 72, .inr (.inl (fun _ => 0))))] := hD
    refine W.widen (k := 0) (n := 0) (by decide) (by decide) ?_
    obtain rfl : r16 = (-9000000000000000000) := hp17
    refine lv_lstore (lv' := [(5, .long (-9000000000000000000)), (3, .long (-9000000000000000000)), (0, .ref (ad 0)), (1, .int p1), (2, .int p2)]) hx hb dX8_leanOf_16 hl (by decide) rfl (fun ls hl => ?_)
    refine lv_lload_n hx hb dX8_leanOf_18 rfl (lv_at hl 1 rfl) ?_
    refine lv_ldc2 hx hb hown hk1 dX8_leanOf_19 ?_
    refine W.lcmp hx hb dX8_leanOf_22 ?_
    refine z_topi (y := 0) (by decide +kernel) ?_
    refine lv_if_eq (tgt := 35) hx hb dX8_leanOf_23 (by decide) (fun _ => ?_) (fun c => absurd (by decide) c)
    refine lv_ldc2 hx hb hown hk1 dX8_leanOf_35 ?_
    refine lv_goto (tgt := 45) hx hb dX8_leanOf_38 (by decide) ?_
    exact z_lret () hx hb hr hlocks hK hP hD hS hAe hQ rfl (Or.inl (⟨rfl, f4⟩)) dX8_leanOf_45
  · refine lv_lstore_n (lv' := [(3, .long (-9000000000000000000)), (0, .ref (ad 0)), (1, .int p1), (2, .int p2)]) hx hb dX8_leanOf_6 rfl hl (by decide) rfl (fun ls hl => ?_)
    refine lv_aload_n hx hb dX8_leanOf_7 rfl (lv_at hl 1 rfl) ?_
    refine lv_aload_n hx hb dX8_leanOf_8 rfl (lv_at hl 1 rfl) ?_
    refine va_get (D := (dC, dI)) (ci := 8) (v := .ref (ad 23)) (C := RX8) (T := TX8) (N := 10) hx hb hts hi8 hown hK hP 0 rfl rfl 3 (by decide) hk0 (fun _ h9 => h9) rfl dX8_leanOf_9 ?_
    refine lv_iconst (v := 1) hx hb dX8_leanOf_12 (by decide) ?_
    refine z_finl (w' := fun (u18 : Unit) => [(ad 0, .inr (8, xf0 ad)), (ad 23, .inr (5, xf23 ad)), (ad 38, .inr (6, xf38 ad)), (ad 39, .inr (1, xf39 ad)), (ad 40, .inl (cJ, 72, .inr (.inl (fun _ => 0)))), (ad 41, .inl (cJ, 72, .inr (.inl (fun _ => 0)))), (ad 42, .inl (cJ, 72, .inr (.inl (fun _ => 0))))]) (va_runV (As := [.ref (ad 23), .int 1]) (rest := []) ⟨hx, hb, hml, hown, hts⟩ (c_X8_truthOf_92 l dC dI cB cI cJ cZ cP cQ ad H.size) (cwV 2 hts gX8_leanOf_X8_truthOf rfl rfl rfl (by decide +kernel) ⟨Nat.le_of_ble_eq_true rfl, Nat.le_of_ble_eq_true rfl⟩) (z_pV (ci := 8) hK hP hD zX_nil [0, 1] (by decide) rfl rfl 0 rfl) rfl rfl hl.1 rfl (lv_room (Nat.le_of_ble_eq_true rfl)) dX8_leanOf_13 ⟨Nat.le_of_ble_eq_true rfl, Nat.le_of_ble_eq_true rfl⟩) hP hD hS hA [0, 1] [2, 3, 4, 5, 6] [5, 6, 0, 1, 2, 3, 4] rfl rfl (by decide) (by decide) (fun _ => rfl) (by decide) (fun r19 u18 H locs hp20 hP hD hS => ?_)
    have hP : va_P (dC, dI) vwCl [(ad 0, .inr (8, xf0 ad)), (ad 23, .inr (5, xf23 ad)), (ad 38, .inr (6, xf38 ad)), (ad 39, .inr (1, xf39 ad)), (ad 40, .inl (cJ, 72, .inr (.inl (fun _ => 0)))), (ad 41, .inl (cJ, 72, .inr (.inl (fun _ => 0)))), (ad 42, .inl (cJ, 72, .inr (.inl (fun _ => 0))))] H := hP
    have hD : va_D A [(ad 0, .inr (8, xf0 ad)), (ad 23, .inr (5, xf23 ad)), (ad 38, .inr (6, xf38 ad)), (ad 39, .inr (1, xf39 ad)), (ad 40, .inl (cJ, 72, .inr (.inl (fun _ => 0)))), (ad 41, .inl (cJ, 72, .inr (.inl (fun _ => 0)))), (ad 42, .inl (cJ, 72, .inr (.inl (fun _ => 0))))] := hD
    refine W.widen (k := 0) (n := 0) (by decide) (by decide) ?_
    obtain rfl : r19 = (-9000000000000000000) := hp20
    refine lv_lstore (lv' := [(5, .long (-9000000000000000000)), (3, .long (-9000000000000000000)), (0, .ref (ad 0)), (1, .int p1), (2, .int p2)]) hx hb dX8_leanOf_16 hl (by decide) rfl (fun ls hl => ?_)
    refine lv_lload_n hx hb dX8_leanOf_18 rfl (lv_at hl 1 rfl) ?_
    refine lv_ldc2 hx hb hown hk1 dX8_leanOf_19 ?_
    refine W.lcmp hx hb dX8_leanOf_22 ?_
    refine z_topi (y := 0) (by decide +kernel) ?_
    refine lv_if_eq (tgt := 35) hx hb dX8_leanOf_23 (by decide) (fun _ => ?_) (fun c => absurd (by decide) c)
    refine lv_ldc2 hx hb hown hk1 dX8_leanOf_35 ?_
    refine lv_goto (tgt := 45) hx hb dX8_leanOf_38 (by decide) ?_
    exact z_lret () hx hb hr hlocks hK hP hD hS hAe hQ rfl (Or.inr (Or.inl ⟨rfl, f5, f6⟩)) dX8_leanOf_45
  · refine lv_lstore_n (lv' := [(3, .long (-9000000000000000000)), (0, .ref (ad 0)), (1, .int p1), (2, .int p2)]) hx hb dX8_leanOf_6 rfl hl (by decide) rfl (fun ls hl => ?_)
    refine lv_aload_n hx hb dX8_leanOf_7 rfl (lv_at hl 1 rfl) ?_
    refine lv_aload_n hx hb dX8_leanOf_8 rfl (lv_at hl 1 rfl) ?_
    refine va_get (D := (dC, dI)) (ci := 8) (v := .ref (ad 23)) (C := RX8) (T := TX8) (N := 10) hx hb hts hi8 hown hK hP 0 rfl rfl 3 (by decide) hk0 (fun _ h9 => h9) rfl dX8_leanOf_9 ?_
    refine lv_iconst (v := 1) hx hb dX8_leanOf_12 (by decide) ?_
    refine z_finl (w' := fun (u21 : Unit) => [(ad 0, .inr (8, xf0 ad)), (ad 23, .inr (5, xf23 ad)), (ad 38, .inr (6, xf38 ad)), (ad 39, .inr (1, xf39 ad)), (ad 40, .inl (cJ, 72, .inr (.inl (fun _ => 0)))), (ad 41, .inl (cJ, 72, .inr (.inl (fun _ => 0)))), (ad 42, .inl (cJ, 72, .inr (.inl (fun _ => 0))))]) (va_runV (As := [.ref (ad 23), .int 1]) (rest := []) ⟨hx, hb, hml, hown, hts⟩ (c_X8_truthOf_92 l dC dI cB cI cJ cZ cP cQ ad H.size) (cwV 2 hts gX8_leanOf_X8_truthOf rfl rfl rfl (by decide +kernel) ⟨Nat.le_of_ble_eq_true rfl, Nat.le_of_ble_eq_true rfl⟩) (z_pV (ci := 8) hK hP hD zX_nil [0, 1] (by decide) rfl rfl 0 rfl) rfl rfl hl.1 rfl (lv_room (Nat.le_of_ble_eq_true rfl)) dX8_leanOf_13 ⟨Nat.le_of_ble_eq_true rfl, Nat.le_of_ble_eq_true rfl⟩) hP hD hS hA [0, 1] [2, 3, 4, 5, 6] [5, 6, 0, 1, 2, 3, 4] rfl rfl (by decide) (by decide) (fun _ => rfl) (by decide) (fun r22 u21 H locs hp23 hP hD hS => ?_)
    have hP : va_P (dC, dI) vwCl [(ad 0, .inr (8, xf0 ad)), (ad 23, .inr (5, xf23 ad)), (ad 38, .inr (6, xf38 ad)), (ad 39, .inr (1, xf39 ad)), (ad 40, .inl (cJ, 72, .inr (.inl (fun _ => 0)))), (ad 41, .inl (cJ, 72, .inr (.inl (fun _ => 0)))), (ad 42, .inl (cJ, 72, .inr (.inl (fun _ => 0))))] H := hP
    have hD : va_D A [(ad 0, .inr (8, xf0 ad)), (ad 23, .inr (5, xf23 ad)), (ad 38, .inr (6, xf38 ad)), (ad 39, .inr (1, xf39 ad)), (ad 40, .inl (cJ, 72, .inr (.inl (fun _ => 0)))), (ad 41, .inl (cJ, 72, .inr (.inl (fun _ => 0)))), (ad 42, .inl (cJ, 72, .inr (.inl (fun _ => 0))))] := hD
    refine W.widen (k := 0) (n := 0) (by decide) (by decide) ?_
    obtain rfl : r22 = (-9000000000000000000) := hp23
    refine lv_lstore (lv' := [(5, .long (-9000000000000000000)), (3, .long (-9000000000000000000)), (0, .ref (ad 0)), (1, .int p1), (2, .int p2)]) hx hb dX8_leanOf_16 hl (by decide) rfl (fun ls hl => ?_)
    refine lv_lload_n hx hb dX8_leanOf_18 rfl (lv_at hl 1 rfl) ?_
    refine lv_ldc2 hx hb hown hk1 dX8_leanOf_19 ?_
    refine W.lcmp hx hb dX8_leanOf_22 ?_
    refine z_topi (y := 0) (by decide +kernel) ?_
    refine lv_if_eq (tgt := 35) hx hb dX8_leanOf_23 (by decide) (fun _ => ?_) (fun c => absurd (by decide) c)
    refine lv_ldc2 hx hb hown hk1 dX8_leanOf_35 ?_
    refine lv_goto (tgt := 45) hx hb dX8_leanOf_38 (by decide) ?_
    exact z_lret () hx hb hr hlocks hK hP hD hS hAe hQ rfl (Or.inr (Or.inr (Or.inl ⟨rfl, f7, f8, f9⟩))) dX8_leanOf_45
  · refine lv_lstore_n (lv' := [(3, .long (-9000000000000000000)), (0, .ref (ad 0)), (1, .int p1), (2, .int p2)]) hx hb dX8_leanOf_6 rfl hl (by decide) rfl (fun ls hl => ?_)
    refine lv_aload_n hx hb dX8_leanOf_7 rfl (lv_at hl 1 rfl) ?_
    refine lv_aload_n hx hb dX8_leanOf_8 rfl (lv_at hl 1 rfl) ?_
    refine va_get (D := (dC, dI)) (ci := 8) (v := .ref (ad 23)) (C := RX8) (T := TX8) (N := 10) hx hb hts hi8 hown hK hP 0 rfl rfl 3 (by decide) hk0 (fun _ h9 => h9) rfl dX8_leanOf_9 ?_
    refine lv_iconst (v := 1) hx hb dX8_leanOf_12 (by decide) ?_
    refine z_finl (w' := fun (u24 : Unit) => [(ad 0, .inr (8, xf0 ad)), (ad 23, .inr (5, xf23 ad)), (ad 38, .inr (6, xf38 ad)), (ad 39, .inr (1, xf39 ad)), (ad 40, .inl (cJ, 72, .inr (.inl (fun _ => 0)))), (ad 41, .inl (cJ, 72, .inr (.inl (fun _ => 0)))), (ad 42, .inl (cJ, 72, .inr (.inl (fun _ => 0))))]) (va_runV (As := [.ref (ad 23), .int 1]) (rest := []) ⟨hx, hb, hml, hown, hts⟩ (c_X8_truthOf_92 l dC dI cB cI cJ cZ cP cQ ad H.size) (cwV 2 hts gX8_leanOf_X8_truthOf rfl rfl rfl (by decide +kernel) ⟨Nat.le_of_ble_eq_true rfl, Nat.le_of_ble_eq_true rfl⟩) (z_pV (ci := 8) hK hP hD zX_nil [0, 1] (by decide) rfl rfl 0 rfl) rfl rfl hl.1 rfl (lv_room (Nat.le_of_ble_eq_true rfl)) dX8_leanOf_13 ⟨Nat.le_of_ble_eq_true rfl, Nat.le_of_ble_eq_true rfl⟩) hP hD hS hA [0, 1] [2, 3, 4, 5, 6] [5, 6, 0, 1, 2, 3, 4] rfl rfl (by decide) (by decide) (fun _ => rfl) (by decide) (fun r25 u24 H locs hp26 hP hD hS => ?_)
    have hP : va_P (dC, dI) vwCl [(ad 0, .inr (8, xf0 ad)), (ad 23, .inr (5, xf23 ad)), (ad 38, .inr (6, xf38 ad)), (ad 39, .inr (1, xf39 ad)), (ad 40, .inl (cJ, 72, .inr (.inl (fun _ => 0)))), (ad 41, .inl (cJ, 72, .inr (.inl (fun _ => 0)))), (ad 42, .inl (cJ, 72, .inr (.inl (fun _ => 0))))] H := hP
    have hD : va_D A [(ad 0, .inr (8, xf0 ad)), (ad 23, .inr (5, xf23 ad)), (ad 38, .inr (6, xf38 ad)), (ad 39, .inr (1, xf39 ad)), (ad 40, .inl (cJ, 72, .inr (.inl (fun _ => 0)))), (ad 41, .inl (cJ, 72, .inr (.inl (fun _ => 0)))), (ad 42, .inl (cJ, 72, .inr (.inl (fun _ => 0))))] := hD
    refine W.widen (k := 0) (n := 0) (by decide) (by decide) ?_
    obtain rfl : r25 = (-9000000000000000000) := hp26
    refine lv_lstore (lv' := [(5, .long (-9000000000000000000)), (3, .long (-9000000000000000000)), (0, .ref (ad 0)), (1, .int p1), (2, .int p2)]) hx hb dX8_leanOf_16 hl (by decide) rfl (fun ls hl => ?_)
    refine lv_lload_n hx hb dX8_leanOf_18 rfl (lv_at hl 1 rfl) ?_
    refine lv_ldc2 hx hb hown hk1 dX8_leanOf_19 ?_
    refine W.lcmp hx hb dX8_leanOf_22 ?_
    refine z_topi (y := 0) (by decide +kernel) ?_
    refine lv_if_eq (tgt := 35) hx hb dX8_leanOf_23 (by decide) (fun _ => ?_) (fun c => absurd (by decide) c)
    refine lv_ldc2 hx hb hown hk1 dX8_leanOf_35 ?_
    refine lv_goto (tgt := 45) hx hb dX8_leanOf_38 (by decide) ?_
    exact z_lret () hx hb hr hlocks hK hP hD hS hAe hQ rfl (Or.inr (Or.inr (Or.inr (Or.inl ⟨rfl, f10, f11, f12⟩)))) dX8_leanOf_45
  · refine lv_lstore_n (lv' := [(3, .long (-9000000000000000000)), (0, .ref (ad 0)), (1, .int p1), (2, .int p2)]) hx hb dX8_leanOf_6 rfl hl (by decide) rfl (fun ls hl => ?_)
    refine lv_aload_n hx hb dX8_leanOf_7 rfl (lv_at hl 1 rfl) ?_
    refine lv_aload_n hx hb dX8_leanOf_8 rfl (lv_at hl 1 rfl) ?_
    refine va_get (D := (dC, dI)) (ci := 8) (v := .ref (ad 23)) (C := RX8) (T := TX8) (N := 10) hx hb hts hi8 hown hK hP 0 rfl rfl 3 (by decide) hk0 (fun _ h9 => h9) rfl dX8_leanOf_9 ?_
    refine lv_iconst (v := 1) hx hb dX8_leanOf_12 (by decide) ?_
    refine z_finl (w' := fun (u27 : Unit) => [(ad 0, .inr (8, xf0 ad)), (ad 23, .inr (5, xf23 ad)), (ad 38, .inr (6, xf38 ad)), (ad 39, .inr (1, xf39 ad)), (ad 40, .inl (cJ, 72, .inr (.inl (fun _ => 0)))), (ad 41, .inl (cJ, 72, .inr (.inl (fun _ => 0)))), (ad 42, .inl (cJ, 72, .inr (.inl (fun _ => 0))))]) (va_runV (As := [.ref (ad 23), .int 1]) (rest := []) ⟨hx, hb, hml, hown, hts⟩ (c_X8_truthOf_92 l dC dI cB cI cJ cZ cP cQ ad H.size) (cwV 2 hts gX8_leanOf_X8_truthOf rfl rfl rfl (by decide +kernel) ⟨Nat.le_of_ble_eq_true rfl, Nat.le_of_ble_eq_true rfl⟩) (z_pV (ci := 8) hK hP hD zX_nil [0, 1] (by decide) rfl rfl 0 rfl) rfl rfl hl.1 rfl (lv_room (Nat.le_of_ble_eq_true rfl)) dX8_leanOf_13 ⟨Nat.le_of_ble_eq_true rfl, Nat.le_of_ble_eq_true rfl⟩) hP hD hS hA [0, 1] [2, 3, 4, 5, 6] [5, 6, 0, 1, 2, 3, 4] rfl rfl (by decide) (by decide) (fun _ => rfl) (by decide) (fun r28 u27 H locs hp29 hP hD hS => ?_)
    have hP : va_P (dC, dI) vwCl [(ad 0, .inr (8, xf0 ad)), (ad 23, .inr (5, xf23 ad)), (ad 38, .inr (6, xf38 ad)), (ad 39, .inr (1, xf39 ad)), (ad 40, .inl (cJ, 72, .inr (.inl (fun _ => 0)))), (ad 41, .inl (cJ, 72, .inr (.inl (fun _ => 0)))), (ad 42, .inl (cJ, 72, .inr (.inl (fun _ => 0))))] H := hP
    have hD : va_D A [(ad 0, .inr (8, xf0 ad)), (ad 23, .inr (5, xf23 ad)), (ad 38, .inr (6, xf38 ad)), (ad 39, .inr (1, xf39 ad)), (ad 40, .inl (cJ, 72, .inr (.inl (fun _ => 0)))), (ad 41, .inl (cJ, 72, .inr (.inl (fun _ => 0)))), (ad 42, .inl (cJ, 72, .inr (.inl (fun _ => 0))))] := hD
    refine W.widen (k := 0) (n := 0) (by decide) (by decide) ?_
    obtain rfl : r28 = (-9000000000000000000) := hp29
    refine lv_lstore (lv' := [(5, .long (-9000000000000000000)), (3, .long (-9000000000000000000)), (0, .ref (ad 0)), (1, .int p1), (2, .int p2)]) hx hb dX8_leanOf_16 hl (by decide) rfl (fun ls hl => ?_)
    refine lv_lload_n hx hb dX8_leanOf_18 rfl (lv_at hl 1 rfl) ?_
    refine lv_ldc2 hx hb hown hk1 dX8_leanOf_19 ?_
    refine W.lcmp hx hb dX8_leanOf_22 ?_
    refine z_topi (y := 0) (by decide +kernel) ?_
    refine lv_if_eq (tgt := 35) hx hb dX8_leanOf_23 (by decide) (fun _ => ?_) (fun c => absurd (by decide) c)
    refine lv_ldc2 hx hb hown hk1 dX8_leanOf_35 ?_
    refine lv_goto (tgt := 45) hx hb dX8_leanOf_38 (by decide) ?_
    exact z_lret () hx hb hr hlocks hK hP hD hS hAe hQ rfl (Or.inr (Or.inr (Or.inr (Or.inr (Or.inl ⟨rfl, f13⟩))))) dX8_leanOf_45
  · refine lv_lstore_n (lv' := [(3, .long (-9000000000000000000)), (0, .ref (ad 0)), (1, .int p1), (2, .int p2)]) hx hb dX8_leanOf_6 rfl hl (by decide) rfl (fun ls hl => ?_)
    refine lv_aload_n hx hb dX8_leanOf_7 rfl (lv_at hl 1 rfl) ?_
    refine lv_aload_n hx hb dX8_leanOf_8 rfl (lv_at hl 1 rfl) ?_
    refine va_get (D := (dC, dI)) (ci := 8) (v := .ref (ad 23)) (C := RX8) (T := TX8) (N := 10) hx hb hts hi8 hown hK hP 0 rfl rfl 3 (by decide) hk0 (fun _ h9 => h9) rfl dX8_leanOf_9 ?_
    refine lv_iconst (v := 1) hx hb dX8_leanOf_12 (by decide) ?_
    refine z_finl (w' := fun (u30 : Unit) => [(ad 0, .inr (8, xf0 ad)), (ad 23, .inr (5, xf23 ad)), (ad 38, .inr (6, xf38 ad)), (ad 39, .inr (1, xf39 ad)), (ad 40, .inl (cJ, 72, .inr (.inl (fun _ => 0)))), (ad 41, .inl (cJ, 72, .inr (.inl (fun _ => 0)))), (ad 42, .inl (cJ, 72, .inr (.inl (fun _ => 0))))]) (va_runV (As := [.ref (ad 23), .int 1]) (rest := []) ⟨hx, hb, hml, hown, hts⟩ (c_X8_truthOf_92 l dC dI cB cI cJ cZ cP cQ ad H.size) (cwV 2 hts gX8_leanOf_X8_truthOf rfl rfl rfl (by decide +kernel) ⟨Nat.le_of_ble_eq_true rfl, Nat.le_of_ble_eq_true rfl⟩) (z_pV (ci := 8) hK hP hD zX_nil [0, 1] (by decide) rfl rfl 0 rfl) rfl rfl hl.1 rfl (lv_room (Nat.le_of_ble_eq_true rfl)) dX8_leanOf_13 ⟨Nat.le_of_ble_eq_true rfl, Nat.le_of_ble_eq_true rfl⟩) hP hD hS hA [0, 1] [2, 3, 4, 5, 6] [5, 6, 0, 1, 2, 3, 4] rfl rfl (by decide) (by decide) (fun _ => rfl) (by decide) (fun r31 u30 H locs hp32 hP hD hS => ?_)
    have hP : va_P (dC, dI) vwCl [(ad 0, .inr (8, xf0 ad)), (ad 23, .inr (5, xf23 ad)), (ad 38, .inr (6, xf38 ad)), (ad 39, .inr (1, xf39 ad)), (ad 40, .inl (cJ, 72, .inr (.inl (fun _ => 0)))), (ad 41, .inl (cJ, 72, .inr (.inl (fun _ => 0)))), (ad 42, .inl (cJ, 72, .inr (.inl (fun _ => 0))))] H := hP
    have hD : va_D A [(ad 0, .inr (8, xf0 ad)), (ad 23, .inr (5, xf23 ad)), (ad 38, .inr (6, xf38 ad)), (ad 39, .inr (1, xf39 ad)), (ad 40, .inl (cJ, 72, .inr (.inl (fun _ => 0)))), (ad 41, .inl (cJ, 72, .inr (.inl (fun _ => 0)))), (ad 42, .inl (cJ, 72, .inr (.inl (fun _ => 0))))] := hD
    refine W.widen (k := 0) (n := 0) (by decide) (by decide) ?_
    obtain rfl : r31 = (-9000000000000000000) := hp32
    refine lv_lstore (lv' := [(5, .long (-9000000000000000000)), (3, .long (-9000000000000000000)), (0, .ref (ad 0)), (1, .int p1), (2, .int p2)]) hx hb dX8_leanOf_16 hl (by decide) rfl (fun ls hl => ?_)
    refine lv_lload_n hx hb dX8_leanOf_18 rfl (lv_at hl 1 rfl) ?_
    refine lv_ldc2 hx hb hown hk1 dX8_leanOf_19 ?_
    refine W.lcmp hx hb dX8_leanOf_22 ?_
    refine z_topi (y := 0) (by decide +kernel) ?_
    refine lv_if_eq (tgt := 35) hx hb dX8_leanOf_23 (by decide) (fun _ => ?_) (fun c => absurd (by decide) c)
    refine lv_ldc2 hx hb hown hk1 dX8_leanOf_35 ?_
    refine lv_goto (tgt := 45) hx hb dX8_leanOf_38 (by decide) ?_
    exact z_lret () hx hb hr hlocks hK hP hD hS hAe hQ rfl (Or.inr (Or.inr (Or.inr (Or.inr (Or.inr ⟨rfl, f14⟩))))) dX8_leanOf_45
set_option maxHeartbeats 4000000 in
set_option maxRecDepth 100000 in
theorem c_X8_leans_95 (l : Launch) (dC : Nat → ClassId) (dI : Nat → Nat → Nat) (cB cI cJ cZ cP cQ : ClassId) (ad : Nat → Nat) (sz : Nat) (p1 : Int32) (p2 : Int32) : Met l yX8_leans wsX8_leans ({ frames := 5, cells := 0, slots := 0, locals := 122 } : Room) (zPc [.ref (ad 0), .int p1, .int p2] (dC, dI) (zT cB cI cJ cZ cP cQ) [(ad 0, .inr (8, xf0 ad)), (ad 23, .inr (5, xf23 ad)), (ad 38, .inr (6, xf38 ad)), (ad 39, .inr (1, xf39 ad)), (ad 40, .inl (cJ, 72, .inr (.inl (fun _ => 0)))), (ad 41, .inl (cJ, 72, .inr (.inl (fun _ => 0)))), (ad 42, .inl (cJ, 72, .inr (.inl (fun _ => 0))))] sz [(RX1, 44, yX8_thousandths, "MonthPush")] []) (va_Ql (fun r _ => (fun r => (r = (-2000000000) ∧ p1.toInt = 0) ∨ (r = (-2000000000) ∧ p1.toInt = 1 ∧ p2.toInt < 1) ∨ (r = (-2000000000) ∧ p1.toInt = 1 ∧ 1 ≤ p2.toInt ∧ 4094 < p2.toInt) ∨ (r = (-2000000000) ∧ p1.toInt = 1 ∧ 1 ≤ p2.toInt ∧ p2.toInt ≤ 4094) ∨ (r = (-2000000000) ∧ p1.toInt = 2) ∨ (r = (-2000000000) ∧ (p1.toInt < 0 ∨ 2 < p1.toInt))) r) (zB (dC, dI) (zT cB cI cJ cZ cP cQ) (fun _ : Unit => []) [(ad 0, .inr (8, xf0 ad)), (ad 23, .inr (5, xf23 ad)), (ad 38, .inr (6, xf38 ad)), (ad 39, .inr (1, xf39 ad)), (ad 40, .inl (cJ, 72, .inr (.inl (fun _ => 0)))), (ad 41, .inl (cJ, 72, .inr (.inl (fun _ => 0)))), (ad 42, .inl (cJ, 72, .inr (.inl (fun _ => 0))))] sz) (va_A [(ad 0, .inr (8, xf0 ad)), (ad 23, .inr (5, xf23 ad)), (ad 38, .inr (6, xf38 ad)), (ad 39, .inr (1, xf39 ad)), (ad 40, .inl (cJ, 72, .inr (.inl (fun _ => 0)))), (ad 41, .inl (cJ, 72, .inr (.inl (fun _ => 0)))), (ad 42, .inl (cJ, 72, .inr (.inl (fun _ => 0))))] sz)) 0 0 (va_A [(ad 0, .inr (8, xf0 ad)), (ad 23, .inr (5, xf23 ad)), (ad 38, .inr (6, xf38 ad)), (ad 39, .inr (1, xf39 ad)), (ad 40, .inl (cJ, 72, .inr (.inl (fun _ => 0)))), (ad 41, .inl (cJ, 72, .inr (.inl (fun _ => 0)))), (ad 42, .inl (cJ, 72, .inr (.inl (fun _ => 0))))] sz) := by
  refine z_enter (cc := cX8_leans) (maxL := 3) (ret := (some .long)) (by decide) rfl (Nat.le_of_ble_eq_true rfl) ?_
  intro p e s m below meth c A ls Q H locs hx hb hr hml hown hts hlocks hin hK hP hD hA hX hS hAe hQ hl
  have hown : s.vm.findClass RX8 = some m.cls := hown
  have hl : lv_has ls 3 [(0, .ref (ad 0)), (1, .int p1), (2, .int p2)] := hl
  refine lv_aload_n hx hb dX8_leans_0 rfl (lv_at hl 0 rfl) ?_
  refine lv_iload_n hx hb dX8_leans_1 rfl (lv_at hl 1 rfl) ?_
  refine lv_iload_n hx hb dX8_leans_2 rfl (lv_at hl 2 rfl) ?_
  refine z_finl (w' := fun (u1 : Unit) => [(ad 0, .inr (8, xf0 ad)), (ad 23, .inr (5, xf23 ad)), (ad 38, .inr (6, xf38 ad)), (ad 39, .inr (1, xf39 ad)), (ad 40, .inl (cJ, 72, .inr (.inl (fun _ => 0)))), (ad 41, .inl (cJ, 72, .inr (.inl (fun _ => 0)))), (ad 42, .inl (cJ, 72, .inr (.inl (fun _ => 0))))]) (va_runV (As := [.int p1, .int p2]) (rest := []) ⟨hx, hb, hml, hown, hts⟩ (c_X8_leanOf_95 l dC dI cB cI cJ cZ cP cQ ad H.size p1 p2) (cwV 2 hts gX8_leans_X8_leanOf rfl rfl rfl (by decide +kernel) ⟨Nat.le_of_ble_eq_true rfl, Nat.le_of_ble_eq_true rfl⟩) (z_pV (ci := 8) hK hP hD (zX_sub hX (by decide +kernel) (by decide +kernel)) [0, 1, 2, 3, 4, 5, 6] (by decide) rfl rfl 0 rfl) rfl rfl hl.1 rfl (lv_room (Nat.le_of_ble_eq_true rfl)) dX8_leans_3 ⟨Nat.le_of_ble_eq_true rfl, Nat.le_of_ble_eq_true rfl⟩) hP hD hS hA [0, 1, 2, 3, 4, 5, 6] [] [0, 1, 2, 3, 4, 5, 6] rfl rfl (by decide) (by decide) (fun _ => rfl) (by decide) (fun r2 u1 H locs hp3 hP hD hS => ?_)
  have hP : va_P (dC, dI) vwCl [(ad 0, .inr (8, xf0 ad)), (ad 23, .inr (5, xf23 ad)), (ad 38, .inr (6, xf38 ad)), (ad 39, .inr (1, xf39 ad)), (ad 40, .inl (cJ, 72, .inr (.inl (fun _ => 0)))), (ad 41, .inl (cJ, 72, .inr (.inl (fun _ => 0)))), (ad 42, .inl (cJ, 72, .inr (.inl (fun _ => 0))))] H := hP
  have hD : va_D A [(ad 0, .inr (8, xf0 ad)), (ad 23, .inr (5, xf23 ad)), (ad 38, .inr (6, xf38 ad)), (ad 39, .inr (1, xf39 ad)), (ad 40, .inl (cJ, 72, .inr (.inl (fun _ => 0)))), (ad 41, .inl (cJ, 72, .inr (.inl (fun _ => 0)))), (ad 42, .inl (cJ, 72, .inr (.inl (fun _ => 0))))] := hD
  refine W.widen (k := 0) (n := 0) (by decide) (by decide) ?_
  rcases hp3 with ⟨rfl, f4⟩ | ⟨rfl, f5, f6⟩ | ⟨rfl, f7, f8, f9⟩ | ⟨rfl, f10, f11, f12⟩ | ⟨rfl, f13⟩ | ⟨rfl, f14⟩
  · refine z_finl (w' := fun (u15 : Unit) => [(ad 0, .inr (8, xf0 ad)), (ad 23, .inr (5, xf23 ad)), (ad 38, .inr (6, xf38 ad)), (ad 39, .inr (1, xf39 ad)), (ad 40, .inl (cJ, 72, .inr (.inl (fun _ => 0)))), (ad 41, .inl (cJ, 72, .inr (.inl (fun _ => 0)))), (ad 42, .inl (cJ, 72, .inr (.inl (fun _ => 0))))]) (va_runS (As := [.long (-9000000000000000000)]) (rest := []) ⟨hx, hb, hml, hown, hts⟩ (c_X8_toFace_49 l dC dI cB cI cJ cZ cP cQ H.size) (va_cwS 1 hts gX8_leans_X8_toFace rfl rfl rfl (by decide +kernel) ⟨Nat.le_of_ble_eq_true rfl, Nat.le_of_ble_eq_true rfl⟩) (z_pS hK hP hD zX_nil [] (by decide) rfl) rfl rfl hl.1 rfl (lv_room (Nat.le_of_ble_eq_true rfl)) dX8_leans_6 ⟨Nat.le_of_ble_eq_true rfl, Nat.le_of_ble_eq_true rfl⟩) hP hD hS hA [] [0, 1, 2, 3, 4, 5, 6] [0, 1, 2, 3, 4, 5, 6] rfl rfl (by decide) (by decide) (fun _ => rfl) (by decide) (fun r16 u15 H locs hp17 hP hD hS => ?_)
    have hP : va_P (dC, dI) vwCl [(ad 0, .inr (8, xf0 ad)), (ad 23, .inr (5, xf23 ad)), (ad 38, .inr (6, xf38 ad)), (ad 39, .inr (1, xf39 ad)), (ad 40, .inl (cJ, 72, .inr (.inl (fun _ => 0)))), (ad 41, .inl (cJ, 72, .inr (.inl (fun _ => 0)))), (ad 42, .inl (cJ, 72, .inr (.inl (fun _ => 0))))] H := hP
    have hD : va_D A [(ad 0, .inr (8, xf0 ad)), (ad 23, .inr (5, xf23 ad)), (ad 38, .inr (6, xf38 ad)), (ad 39, .inr (1, xf39 ad)), (ad 40, .inl (cJ, 72, .inr (.inl (fun _ => 0)))), (ad 41, .inl (cJ, 72, .inr (.inl (fun _ => 0)))), (ad 42, .inl (cJ, 72, .inr (.inl (fun _ => 0))))] := hD
    refine W.widen (k := 0) (n := 0) (by decide) (by decide) ?_
    obtain rfl : r16 = (-2000000000) := hp17
    have hP9 := hP.sub (ws' := []) [] rfl
    have hD9 := hD.sub (ws' := []) [] (by decide) rfl
    exact z_lret () hx hb hr hlocks hK hP9 hD9 hS hAe hQ rfl (Or.inl (⟨rfl, f4⟩)) dX8_leans_9
  · refine z_finl (w' := fun (u18 : Unit) => [(ad 0, .inr (8, xf0 ad)), (ad 23, .inr (5, xf23 ad)), (ad 38, .inr (6, xf38 ad)), (ad 39, .inr (1, xf39 ad)), (ad 40, .inl (cJ, 72, .inr (.inl (fun _ => 0)))), (ad 41, .inl (cJ, 72, .inr (.inl (fun _ => 0)))), (ad 42, .inl (cJ, 72, .inr (.inl (fun _ => 0))))]) (va_runS (As := [.long (-9000000000000000000)]) (rest := []) ⟨hx, hb, hml, hown, hts⟩ (c_X8_toFace_49 l dC dI cB cI cJ cZ cP cQ H.size) (va_cwS 1 hts gX8_leans_X8_toFace rfl rfl rfl (by decide +kernel) ⟨Nat.le_of_ble_eq_true rfl, Nat.le_of_ble_eq_true rfl⟩) (z_pS hK hP hD zX_nil [] (by decide) rfl) rfl rfl hl.1 rfl (lv_room (Nat.le_of_ble_eq_true rfl)) dX8_leans_6 ⟨Nat.le_of_ble_eq_true rfl, Nat.le_of_ble_eq_true rfl⟩) hP hD hS hA [] [0, 1, 2, 3, 4, 5, 6] [0, 1, 2, 3, 4, 5, 6] rfl rfl (by decide) (by decide) (fun _ => rfl) (by decide) (fun r19 u18 H locs hp20 hP hD hS => ?_)
    have hP : va_P (dC, dI) vwCl [(ad 0, .inr (8, xf0 ad)), (ad 23, .inr (5, xf23 ad)), (ad 38, .inr (6, xf38 ad)), (ad 39, .inr (1, xf39 ad)), (ad 40, .inl (cJ, 72, .inr (.inl (fun _ => 0)))), (ad 41, .inl (cJ, 72, .inr (.inl (fun _ => 0)))), (ad 42, .inl (cJ, 72, .inr (.inl (fun _ => 0))))] H := hP
    have hD : va_D A [(ad 0, .inr (8, xf0 ad)), (ad 23, .inr (5, xf23 ad)), (ad 38, .inr (6, xf38 ad)), (ad 39, .inr (1, xf39 ad)), (ad 40, .inl (cJ, 72, .inr (.inl (fun _ => 0)))), (ad 41, .inl (cJ, 72, .inr (.inl (fun _ => 0)))), (ad 42, .inl (cJ, 72, .inr (.inl (fun _ => 0))))] := hD
    refine W.widen (k := 0) (n := 0) (by decide) (by decide) ?_
    obtain rfl : r19 = (-2000000000) := hp20
    have hP9 := hP.sub (ws' := []) [] rfl
    have hD9 := hD.sub (ws' := []) [] (by decide) rfl
    exact z_lret () hx hb hr hlocks hK hP9 hD9 hS hAe hQ rfl (Or.inr (Or.inl ⟨rfl, f5, f6⟩)) dX8_leans_9
  · refine z_finl (w' := fun (u21 : Unit) => [(ad 0, .inr (8, xf0 ad)), (ad 23, .inr (5, xf23 ad)), (ad 38, .inr (6, xf38 ad)), (ad 39, .inr (1, xf39 ad)), (ad 40, .inl (cJ, 72, .inr (.inl (fun _ => 0)))), (ad 41, .inl (cJ, 72, .inr (.inl (fun _ => 0)))), (ad 42, .inl (cJ, 72, .inr (.inl (fun _ => 0))))]) (va_runS (As := [.long (-9000000000000000000)]) (rest := []) ⟨hx, hb, hml, hown, hts⟩ (c_X8_toFace_49 l dC dI cB cI cJ cZ cP cQ H.size) (va_cwS 1 hts gX8_leans_X8_toFace rfl rfl rfl (by decide +kernel) ⟨Nat.le_of_ble_eq_true rfl, Nat.le_of_ble_eq_true rfl⟩) (z_pS hK hP hD zX_nil [] (by decide) rfl) rfl rfl hl.1 rfl (lv_room (Nat.le_of_ble_eq_true rfl)) dX8_leans_6 ⟨Nat.le_of_ble_eq_true rfl, Nat.le_of_ble_eq_true rfl⟩) hP hD hS hA [] [0, 1, 2, 3, 4, 5, 6] [0, 1, 2, 3, 4, 5, 6] rfl rfl (by decide) (by decide) (fun _ => rfl) (by decide) (fun r22 u21 H locs hp23 hP hD hS => ?_)
    have hP : va_P (dC, dI) vwCl [(ad 0, .inr (8, xf0 ad)), (ad 23, .inr (5, xf23 ad)), (ad 38, .inr (6, xf38 ad)), (ad 39, .inr (1, xf39 ad)), (ad 40, .inl (cJ, 72, .inr (.inl (fun _ => 0)))), (ad 41, .inl (cJ, 72, .inr (.inl (fun _ => 0)))), (ad 42, .inl (cJ, 72, .inr (.inl (fun _ => 0))))] H := hP
    have hD : va_D A [(ad 0, .inr (8, xf0 ad)), (ad 23, .inr (5, xf23 ad)), (ad 38, .inr (6, xf38 ad)), (ad 39, .inr (1, xf39 ad)), (ad 40, .inl (cJ, 72, .inr (.inl (fun _ => 0)))), (ad 41, .inl (cJ, 72, .inr (.inl (fun _ => 0)))), (ad 42, .inl (cJ, 72, .inr (.inl (fun _ => 0))))] := hD
    refine W.widen (k := 0) (n := 0) (by decide) (by decide) ?_
    obtain rfl : r22 = (-2000000000) := hp23
    have hP9 := hP.sub (ws' := []) [] rfl
    have hD9 := hD.sub (ws' := []) [] (by decide) rfl
    exact z_lret () hx hb hr hlocks hK hP9 hD9 hS hAe hQ rfl (Or.inr (Or.inr (Or.inl ⟨rfl, f7, f8, f9⟩))) dX8_leans_9
  · refine z_finl (w' := fun (u24 : Unit) => [(ad 0, .inr (8, xf0 ad)), (ad 23, .inr (5, xf23 ad)), (ad 38, .inr (6, xf38 ad)), (ad 39, .inr (1, xf39 ad)), (ad 40, .inl (cJ, 72, .inr (.inl (fun _ => 0)))), (ad 41, .inl (cJ, 72, .inr (.inl (fun _ => 0)))), (ad 42, .inl (cJ, 72, .inr (.inl (fun _ => 0))))]) (va_runS (As := [.long (-9000000000000000000)]) (rest := []) ⟨hx, hb, hml, hown, hts⟩ (c_X8_toFace_49 l dC dI cB cI cJ cZ cP cQ H.size) (va_cwS 1 hts gX8_leans_X8_toFace rfl rfl rfl (by decide +kernel) ⟨Nat.le_of_ble_eq_true rfl, Nat.le_of_ble_eq_true rfl⟩) (z_pS hK hP hD zX_nil [] (by decide) rfl) rfl rfl hl.1 rfl (lv_room (Nat.le_of_ble_eq_true rfl)) dX8_leans_6 ⟨Nat.le_of_ble_eq_true rfl, Nat.le_of_ble_eq_true rfl⟩) hP hD hS hA [] [0, 1, 2, 3, 4, 5, 6] [0, 1, 2, 3, 4, 5, 6] rfl rfl (by decide) (by decide) (fun _ => rfl) (by decide) (fun r25 u24 H locs hp26 hP hD hS => ?_)
    have hP : va_P (dC, dI) vwCl [(ad 0, .inr (8, xf0 ad)), (ad 23, .inr (5, xf23 ad)), (ad 38, .inr (6, xf38 ad)), (ad 39, .inr (1, xf39 ad)), (ad 40, .inl (cJ, 72, .inr (.inl (fun _ => 0)))), (ad 41, .inl (cJ, 72, .inr (.inl (fun _ => 0)))), (ad 42, .inl (cJ, 72, .inr (.inl (fun _ => 0))))] H := hP
    have hD : va_D A [(ad 0, .inr (8, xf0 ad)), (ad 23, .inr (5, xf23 ad)), (ad 38, .inr (6, xf38 ad)), (ad 39, .inr (1, xf39 ad)), (ad 40, .inl (cJ, 72, .inr (.inl (fun _ => 0)))), (ad 41, .inl (cJ, 72, .inr (.inl (fun _ => 0)))), (ad 42, .inl (cJ, 72, .inr (.inl (fun _ => 0))))] := hD
    refine W.widen (k := 0) (n := 0) (by decide) (by decide) ?_
    obtain rfl : r25 = (-2000000000) := hp26
    have hP9 := hP.sub (ws' := []) [] rfl
    have hD9 := hD.sub (ws' := []) [] (by decide) rfl
    exact z_lret () hx hb hr hlocks hK hP9 hD9 hS hAe hQ rfl (Or.inr (Or.inr (Or.inr (Or.inl ⟨rfl, f10, f11, f12⟩)))) dX8_leans_9
  · refine z_finl (w' := fun (u27 : Unit) => [(ad 0, .inr (8, xf0 ad)), (ad 23, .inr (5, xf23 ad)), (ad 38, .inr (6, xf38 ad)), (ad 39, .inr (1, xf39 ad)), (ad 40, .inl (cJ, 72, .inr (.inl (fun _ => 0)))), (ad 41, .inl (cJ, 72, .inr (.inl (fun _ => 0)))), (ad 42, .inl (cJ, 72, .inr (.inl (fun _ => 0))))]) (va_runS (As := [.long (-9000000000000000000)]) (rest := []) ⟨hx, hb, hml, hown, hts⟩ (c_X8_toFace_49 l dC dI cB cI cJ cZ cP cQ H.size) (va_cwS 1 hts gX8_leans_X8_toFace rfl rfl rfl (by decide +kernel) ⟨Nat.le_of_ble_eq_true rfl, Nat.le_of_ble_eq_true rfl⟩) (z_pS hK hP hD zX_nil [] (by decide) rfl) rfl rfl hl.1 rfl (lv_room (Nat.le_of_ble_eq_true rfl)) dX8_leans_6 ⟨Nat.le_of_ble_eq_true rfl, Nat.le_of_ble_eq_true rfl⟩) hP hD hS hA [] [0, 1, 2, 3, 4, 5, 6] [0, 1, 2, 3, 4, 5, 6] rfl rfl (by decide) (by decide) (fun _ => rfl) (by decide) (fun r28 u27 H locs hp29 hP hD hS => ?_)
    have hP : va_P (dC, dI) vwCl [(ad 0, .inr (8, xf0 ad)), (ad 23, .inr (5, xf23 ad)), (ad 38, .inr (6, xf38 ad)), (ad 39, .inr (1, xf39 ad)), (ad 40, .inl (cJ, 72, .inr (.inl (fun _ => 0)))), (ad 41, .inl (cJ, 72, .inr (.inl (fun _ => 0)))), (ad 42, .inl (cJ, 72, .inr (.inl (fun _ => 0))))] H := hP
    have hD : va_D A [(ad 0, .inr (8, xf0 ad)), (ad 23, .inr (5, xf23 ad)), (ad 38, .inr (6, xf38 ad)), (ad 39, .inr (1, xf39 ad)), (ad 40, .inl (cJ, 72, .inr (.inl (fun _ => 0)))), (ad 41, .inl (cJ, 72, .inr (.inl (fun _ => 0)))), (ad 42, .inl (cJ, 72, .inr (.inl (fun _ => 0))))] := hD
    refine W.widen (k := 0) (n := 0) (by decide) (by decide) ?_
    obtain rfl : r28 = (-2000000000) := hp29
    have hP9 := hP.sub (ws' := []) [] rfl
    have hD9 := hD.sub (ws' := []) [] (by decide) rfl
    exact z_lret () hx hb hr hlocks hK hP9 hD9 hS hAe hQ rfl (Or.inr (Or.inr (Or.inr (Or.inr (Or.inl ⟨rfl, f13⟩))))) dX8_leans_9
  · refine z_finl (w' := fun (u30 : Unit) => [(ad 0, .inr (8, xf0 ad)), (ad 23, .inr (5, xf23 ad)), (ad 38, .inr (6, xf38 ad)), (ad 39, .inr (1, xf39 ad)), (ad 40, .inl (cJ, 72, .inr (.inl (fun _ => 0)))), (ad 41, .inl (cJ, 72, .inr (.inl (fun _ => 0)))), (ad 42, .inl (cJ, 72, .inr (.inl (fun _ => 0))))]) (va_runS (As := [.long (-9000000000000000000)]) (rest := []) ⟨hx, hb, hml, hown, hts⟩ (c_X8_toFace_49 l dC dI cB cI cJ cZ cP cQ H.size) (va_cwS 1 hts gX8_leans_X8_toFace rfl rfl rfl (by decide +kernel) ⟨Nat.le_of_ble_eq_true rfl, Nat.le_of_ble_eq_true rfl⟩) (z_pS hK hP hD zX_nil [] (by decide) rfl) rfl rfl hl.1 rfl (lv_room (Nat.le_of_ble_eq_true rfl)) dX8_leans_6 ⟨Nat.le_of_ble_eq_true rfl, Nat.le_of_ble_eq_true rfl⟩) hP hD hS hA [] [0, 1, 2, 3, 4, 5, 6] [0, 1, 2, 3, 4, 5, 6] rfl rfl (by decide) (by decide) (fun _ => rfl) (by decide) (fun r31 u30 H locs hp32 hP hD hS => ?_)
    have hP : va_P (dC, dI) vwCl [(ad 0, .inr (8, xf0 ad)), (ad 23, .inr (5, xf23 ad)), (ad 38, .inr (6, xf38 ad)), (ad 39, .inr (1, xf39 ad)), (ad 40, .inl (cJ, 72, .inr (.inl (fun _ => 0)))), (ad 41, .inl (cJ, 72, .inr (.inl (fun _ => 0)))), (ad 42, .inl (cJ, 72, .inr (.inl (fun _ => 0))))] H := hP
    have hD : va_D A [(ad 0, .inr (8, xf0 ad)), (ad 23, .inr (5, xf23 ad)), (ad 38, .inr (6, xf38 ad)), (ad 39, .inr (1, xf39 ad)), (ad 40, .inl (cJ, 72, .inr (.inl (fun _ => 0)))), (ad 41, .inl (cJ, 72, .inr (.inl (fun _ => 0)))), (ad 42, .inl (cJ, 72, .inr (.inl (fun _ => 0))))] := hD
    refine W.widen (k := 0) (n := 0) (by decide) (by decide) ?_
    obtain rfl : r31 = (-2000000000) := hp32
    have hP9 := hP.sub (ws' := []) [] rfl
    have hD9 := hD.sub (ws' := []) [] (by decide) rfl
    exact z_lret () hx hb hr hlocks hK hP9 hD9 hS hAe hQ rfl (Or.inr (Or.inr (Or.inr (Or.inr (Or.inr ⟨rfl, f14⟩))))) dX8_leans_9
set_option maxHeartbeats 4000000 in
set_option maxRecDepth 100000 in
theorem c_X8_estimateOf_98 (l : Launch) (dC : Nat → ClassId) (dI : Nat → Nat → Nat) (cB cI cJ cZ cP cQ : ClassId) (ad : Nat → Nat) (sz : Nat) (p2 : Int32) : Met l yX8_estimateOf wsX8_estimateOf ({ frames := 2, cells := 0, slots := 0, locals := 49 } : Room) (zPc [.ref (ad 0), .int 0, .int p2] (dC, dI) (zT cB cI cJ cZ cP cQ) [(ad 0, .inr (8, xf0 ad)), (ad 23, .inr (5, xf23 ad)), (ad 38, .inr (6, xf38 ad))] sz [] []) (va_Ql (fun r _ => (fun r => r = (-9000000000000000000)) r) (zB (dC, dI) (zT cB cI cJ cZ cP cQ) (fun _ : Unit => [(ad 0, .inr (8, xf0 ad)), (ad 23, .inr (5, xf23 ad)), (ad 38, .inr (6, xf38 ad))]) [(ad 0, .inr (8, xf0 ad)), (ad 23, .inr (5, xf23 ad)), (ad 38, .inr (6, xf38 ad))] sz) (va_A [(ad 0, .inr (8, xf0 ad)), (ad 23, .inr (5, xf23 ad)), (ad 38, .inr (6, xf38 ad))] sz)) 0 0 (va_A [(ad 0, .inr (8, xf0 ad)), (ad 23, .inr (5, xf23 ad)), (ad 38, .inr (6, xf38 ad))] sz) := by
  refine z_enter (cc := cX8_estimateOf) (maxL := 3) (ret := (some .long)) (by decide) rfl (Nat.le_of_ble_eq_true rfl) ?_
  intro p e s m below meth c A ls Q H locs hx hb hr hml hown hts hlocks hin hK hP hD hA hX hS hAe hQ hl
  have hown : s.vm.findClass RX8 = some m.cls := hown
  have hl : lv_has ls 3 [(0, .ref (ad 0)), (1, .int 0), (2, .int p2)] := hl
  refine lv_iload_n hx hb dX8_estimateOf_0 rfl (lv_at hl 1 rfl) ?_
  refine lv_tableIn (off := 27) (tgt := 28) hx hb dX8_estimateOf_1 (by decide) (by decide) (by decide) (by decide) ?_
  refine lv_aload_n hx hb dX8_estimateOf_28 rfl (lv_at hl 0 rfl) ?_
  refine z_finl (w' := fun (u1 : Unit) => [(ad 0, .inr (8, xf0 ad)), (ad 23, .inr (5, xf23 ad)), (ad 38, .inr (6, xf38 ad))]) (va_runV (As := []) (rest := []) ⟨hx, hb, hml, hown, hts⟩ (c_X8_plainOf_48 l dC dI cB cI cJ cZ cP cQ ad H.size) (cwV 0 hts gX8_estimateOf_X8_plainOf rfl rfl rfl (by decide +kernel) ⟨Nat.le_of_ble_eq_true rfl, Nat.le_of_ble_eq_true rfl⟩) (z_pV (ci := 8) hK hP hD zX_nil [0, 1, 2] (by decide) rfl rfl 0 rfl) rfl rfl hl.1 rfl (lv_room (Nat.le_of_ble_eq_true rfl)) dX8_estimateOf_29 ⟨Nat.le_of_ble_eq_true rfl, Nat.le_of_ble_eq_true rfl⟩) hP hD hS hA [0, 1, 2] [] [0, 1, 2] rfl rfl (by decide) (by decide) (fun _ => rfl) (by decide) (fun r2 u1 H locs hp3 hP hD hS => ?_)
  have hP : va_P (dC, dI) vwCl [(ad 0, .inr (8, xf0 ad)), (ad 23, .inr (5, xf23 ad)), (ad 38, .inr (6, xf38 ad))] H := hP
  have hD : va_D A [(ad 0, .inr (8, xf0 ad)), (ad 23, .inr (5, xf23 ad)), (ad 38, .inr (6, xf38 ad))] := hD
  refine W.widen (k := 0) (n := 0) (by decide) (by decide) ?_
  obtain rfl : r2 = (-9000000000000000000) := hp3
  exact z_lret () hx hb hr hlocks hK hP hD hS hAe hQ rfl rfl dX8_estimateOf_32
set_option maxHeartbeats 4000000 in
set_option maxRecDepth 100000 in
theorem c_X8_leanOf_98 (l : Launch) (dC : Nat → ClassId) (dI : Nat → Nat → Nat) (cB cI cJ cZ cP cQ : ClassId) (ad : Nat → Nat) (sz : Nat) (p2 : Int32) : Met l yX8_leanOf wsX8_leanOf ({ frames := 3, cells := 0, slots := 0, locals := 71 } : Room) (zPc [.ref (ad 0), .int 0, .int p2] (dC, dI) (zT cB cI cJ cZ cP cQ) [(ad 0, .inr (8, xf0 ad)), (ad 23, .inr (5, xf23 ad)), (ad 38, .inr (6, xf38 ad))] sz [] []) (va_Ql (fun r _ => (fun r => r = (-9000000000000000000)) r) (zB (dC, dI) (zT cB cI cJ cZ cP cQ) (fun _ : Unit => [(ad 0, .inr (8, xf0 ad)), (ad 23, .inr (5, xf23 ad)), (ad 38, .inr (6, xf38 ad))]) [(ad 0, .inr (8, xf0 ad)), (ad 23, .inr (5, xf23 ad)), (ad 38, .inr (6, xf38 ad))] sz) (va_A [(ad 0, .inr (8, xf0 ad)), (ad 23, .inr (5, xf23 ad)), (ad 38, .inr (6, xf38 ad))] sz)) 0 0 (va_A [(ad 0, .inr (8, xf0 ad)), (ad 23, .inr (5, xf23 ad)), (ad 38, .inr (6, xf38 ad))] sz) := by
  refine z_enter (cc := cX8_leanOf) (maxL := 7) (ret := (some .long)) (by decide) rfl (Nat.le_of_ble_eq_true rfl) ?_
  intro p e s m below meth c A ls Q H locs hx hb hr hml hown hts hlocks hin hK hP hD hA hX hS hAe hQ hl
  have hown : s.vm.findClass RX8 = some m.cls := hown
  have hi8 : ∀ w ∈ wsX80, w ∈ wsX8_leanOf := fun w h => List.mem_cons_of_mem _ (List.mem_append_left _ (List.mem_append_left _ (List.mem_append_left _ (List.mem_append_left _ (List.mem_append_right _ h)))))
  have hk0 := hts (.fieldLink RX8 29 "MonthPush" "all" "LMonthPush$Sheets;") (by decide +kernel)
  have hk1 := hts (.constantLong RX8 282 (-9000000000000000000)) (by decide +kernel)
  have hl : lv_has ls 7 [(0, .ref (ad 0)), (1, .int 0), (2, .int p2)] := hl
  refine lv_aload_n hx hb dX8_leanOf_0 rfl (lv_at hl 0 rfl) ?_
  refine lv_iload_n hx hb dX8_leanOf_1 rfl (lv_at hl 1 rfl) ?_
  refine lv_iload_n hx hb dX8_leanOf_2 rfl (lv_at hl 2 rfl) ?_
  refine z_finl (w' := fun (u1 : Unit) => [(ad 0, .inr (8, xf0 ad)), (ad 23, .inr (5, xf23 ad)), (ad 38, .inr (6, xf38 ad))]) (va_runV (As := [.int 0, .int p2]) (rest := []) ⟨hx, hb, hml, hown, hts⟩ (c_X8_estimateOf_98 l dC dI cB cI cJ cZ cP cQ ad H.size p2) (cwV 2 hts gX8_leanOf_X8_estimateOf rfl rfl rfl (by decide +kernel) ⟨Nat.le_of_ble_eq_true rfl, Nat.le_of_ble_eq_true rfl⟩) (z_pV (ci := 8) hK hP hD zX_nil [0, 1, 2] (by decide) rfl rfl 0 rfl) rfl rfl hl.1 rfl (lv_room (Nat.le_of_ble_eq_true rfl)) dX8_leanOf_3 ⟨Nat.le_of_ble_eq_true rfl, Nat.le_of_ble_eq_true rfl⟩) hP hD hS hA [0, 1, 2] [] [0, 1, 2] rfl rfl (by decide) (by decide) (fun _ => rfl) (by decide) (fun r2 u1 H locs hp3 hP hD hS => ?_)
  have hP : va_P (dC, dI) vwCl [(ad 0, .inr (8, xf0 ad)), (ad 23, .inr (5, xf23 ad)), (ad 38, .inr (6, xf38 ad))] H := hP
  have hD : va_D A [(ad 0, .inr (8, xf0 ad)), (ad 23, .inr (5, xf23 ad)), (ad 38, .inr (6, xf38 ad))] := hD
  refine W.widen (k := 0) (n := 0) (by decide) (by decide) ?_
  obtain rfl : r2 = (-9000000000000000000) := hp3
  refine lv_lstore_n (lv' := [(3, .long (-9000000000000000000)), (0, .ref (ad 0)), (1, .int 0), (2, .int p2)]) hx hb dX8_leanOf_6 rfl hl (by decide) rfl (fun ls hl => ?_)
  refine lv_aload_n hx hb dX8_leanOf_7 rfl (lv_at hl 1 rfl) ?_
  refine lv_aload_n hx hb dX8_leanOf_8 rfl (lv_at hl 1 rfl) ?_
  refine va_get (D := (dC, dI)) (ci := 8) (v := .ref (ad 23)) (C := RX8) (T := TX8) (N := 10) hx hb hts hi8 hown hK hP 0 rfl rfl 3 (by decide) hk0 (fun _ h9 => h9) rfl dX8_leanOf_9 ?_
  refine lv_iconst (v := 1) hx hb dX8_leanOf_12 (by decide) ?_
  refine z_finl (w' := fun (u4 : Unit) => [(ad 0, .inr (8, xf0 ad)), (ad 23, .inr (5, xf23 ad)), (ad 38, .inr (6, xf38 ad))]) (va_runV (As := [.ref (ad 23), .int 1]) (rest := []) ⟨hx, hb, hml, hown, hts⟩ (c_X8_truthOf_92 l dC dI cB cI cJ cZ cP cQ ad H.size) (cwV 2 hts gX8_leanOf_X8_truthOf rfl rfl rfl (by decide +kernel) ⟨Nat.le_of_ble_eq_true rfl, Nat.le_of_ble_eq_true rfl⟩) (z_pV (ci := 8) hK hP hD zX_nil [0, 1] (by decide) rfl rfl 0 rfl) rfl rfl hl.1 rfl (lv_room (Nat.le_of_ble_eq_true rfl)) dX8_leanOf_13 ⟨Nat.le_of_ble_eq_true rfl, Nat.le_of_ble_eq_true rfl⟩) hP hD hS hA [0, 1] [2] [1, 2, 0] rfl rfl (by decide) (by decide) (fun _ => rfl) (by decide) (fun r5 u4 H locs hp6 hP hD hS => ?_)
  have hP : va_P (dC, dI) vwCl [(ad 0, .inr (8, xf0 ad)), (ad 23, .inr (5, xf23 ad)), (ad 38, .inr (6, xf38 ad))] H := hP
  have hD : va_D A [(ad 0, .inr (8, xf0 ad)), (ad 23, .inr (5, xf23 ad)), (ad 38, .inr (6, xf38 ad))] := hD
  refine W.widen (k := 0) (n := 0) (by decide) (by decide) ?_
  obtain rfl : r5 = (-9000000000000000000) := hp6
  refine lv_lstore (lv' := [(5, .long (-9000000000000000000)), (3, .long (-9000000000000000000)), (0, .ref (ad 0)), (1, .int 0), (2, .int p2)]) hx hb dX8_leanOf_16 hl (by decide) rfl (fun ls hl => ?_)
  refine lv_lload_n hx hb dX8_leanOf_18 rfl (lv_at hl 1 rfl) ?_
  refine lv_ldc2 hx hb hown hk1 dX8_leanOf_19 ?_
  refine W.lcmp hx hb dX8_leanOf_22 ?_
  refine z_topi (y := 0) (by decide +kernel) ?_
  refine lv_if_eq (tgt := 35) hx hb dX8_leanOf_23 (by decide) (fun _ => ?_) (fun c => absurd (by decide) c)
  refine lv_ldc2 hx hb hown hk1 dX8_leanOf_35 ?_
  refine lv_goto (tgt := 45) hx hb dX8_leanOf_38 (by decide) ?_
  exact z_lret () hx hb hr hlocks hK hP hD hS hAe hQ rfl rfl dX8_leanOf_45
set_option maxHeartbeats 4000000 in
set_option maxRecDepth 100000 in
theorem c_X8_estimateOf_100 (l : Launch) (dC : Nat → ClassId) (dI : Nat → Nat → Nat) (cB cI cJ cZ cP cQ : ClassId) (ad : Nat → Nat) (sz : Nat) (p2 : Int32) : Met l yX8_estimateOf wsX8_estimateOf ({ frames := 3, cells := 0, slots := 0, locals := 68 } : Room) (zPc [.ref (ad 0), .int 1, .int p2] (dC, dI) (zT cB cI cJ cZ cP cQ) [(ad 0, .inr (8, xf0 ad)), (ad 23, .inr (5, xf23 ad)), (ad 38, .inr (6, xf38 ad))] sz [] []) (va_Ql (fun r _ => (fun r => (r = (-9000000000000000000) ∧ p2.toInt < 1) ∨ (r = (-9000000000000000000) ∧ 1 ≤ p2.toInt ∧ 4094 < p2.toInt) ∨ (r = (-9000000000000000000) ∧ 1 ≤ p2.toInt ∧ p2.toInt ≤ 4094)) r) (zB (dC, dI) (zT cB cI cJ cZ cP cQ) (fun _ : Unit => [(ad 0, .inr (8, xf0 ad)), (ad 23, .inr (5, xf23 ad)), (ad 38, .inr (6, xf38 ad))]) [(ad 0, .inr (8, xf0 ad)), (ad 23, .inr (5, xf23 ad)), (ad 38, .inr (6, xf38 ad))] sz) (va_A [(ad 0, .inr (8, xf0 ad)), (ad 23, .inr (5, xf23 ad)), (ad 38, .inr (6, xf38 ad))] sz)) 0 0 (va_A [(ad 0, .inr (8, xf0 ad)), (ad 23, .inr (5, xf23 ad)), (ad 38, .inr (6, xf38 ad))] sz) := by
  refine z_enter (cc := cX8_estimateOf) (maxL := 3) (ret := (some .long)) (by decide) rfl (Nat.le_of_ble_eq_true rfl) ?_
  intro p e s m below meth c A ls Q H locs hx hb hr hml hown hts hlocks hin hK hP hD hA hX hS hAe hQ hl
  have hown : s.vm.findClass RX8 = some m.cls := hown
  have hi8 : ∀ w ∈ wsX80, w ∈ wsX8_estimateOf := fun w h => List.mem_cons_of_mem _ (List.mem_append_left _ (List.mem_append_left _ (List.mem_append_left _ (List.mem_append_right _ h))))
  have hk0 := hts (.fieldLink RX8 29 "MonthPush" "all" "LMonthPush$Sheets;") (by decide +kernel)
  have hl : lv_has ls 3 [(0, .ref (ad 0)), (1, .int 1), (2, .int p2)] := hl
  refine lv_iload_n hx hb dX8_estimateOf_0 rfl (lv_at hl 1 rfl) ?_
  refine lv_tableIn (off := 32) (tgt := 33) hx hb dX8_estimateOf_1 (by decide) (by decide) (by decide) (by decide) ?_
  refine lv_aload_n hx hb dX8_estimateOf_33 rfl (lv_at hl 0 rfl) ?_
  refine lv_aload_n hx hb dX8_estimateOf_34 rfl (lv_at hl 0 rfl) ?_
  refine va_get (D := (dC, dI)) (ci := 8) (v := .ref (ad 23)) (C := RX8) (T := TX8) (N := 10) hx hb hts hi8 hown hK hP 0 rfl rfl 3 (by decide) hk0 (fun _ h9 => h9) rfl dX8_estimateOf_35 ?_
  refine lv_iload_n hx hb dX8_estimateOf_38 rfl (lv_at hl 2 rfl) ?_
  refine z_finr (w' := fun (u1 : Unit) => [(ad 0, .inr (8, xf0 ad)), (ad 23, .inr (5, xf23 ad)), (ad 38, .inr (6, xf38 ad))]) (va_runV (As := [.ref (ad 23), .int p2]) (rest := []) ⟨hx, hb, hml, hown, hts⟩ (c_X8_divided_53 l dC dI cB cI cJ cZ cP cQ ad H.size p2) (cwV 2 hts gX8_estimateOf_X8_divided rfl rfl rfl (by decide +kernel) ⟨Nat.le_of_ble_eq_true rfl, Nat.le_of_ble_eq_true rfl⟩) (z_pV (ci := 8) hK hP hD zX_nil [0, 1, 2] (by decide) rfl rfl 0 rfl) rfl rfl hl.1 rfl (lv_room (Nat.le_of_ble_eq_true rfl)) dX8_estimateOf_39 ⟨Nat.le_of_ble_eq_true rfl, Nat.le_of_ble_eq_true rfl⟩) hP hD hS hA [0, 1, 2] [] [0, 1, 2] rfl rfl (by decide) (by decide) (fun _ => rfl) (by decide) (fun u1 H locs hp3 hP hD hS => ?_)
  have hP : va_P (dC, dI) vwCl [(ad 0, .inr (8, xf0 ad)), (ad 23, .inr (5, xf23 ad)), (ad 38, .inr (6, xf38 ad))] H := hP
  have hD : va_D A [(ad 0, .inr (8, xf0 ad)), (ad 23, .inr (5, xf23 ad)), (ad 38, .inr (6, xf38 ad))] := hD
  refine W.widen (k := 0) (n := 0) (by decide) (by decide) ?_
  rcases hp3 with f4 | ⟨f5, f6⟩ | ⟨f7, f8⟩
  · refine z_finl (w' := fun (u9 : Unit) => [(ad 0, .inr (8, xf0 ad)), (ad 23, .inr (5, xf23 ad)), (ad 38, .inr (6, xf38 ad))]) (va_runV (As := []) (rest := []) ⟨hx, hb, hml, hown, hts⟩ (c_X6_byMoved_57 l dC dI cB cI cJ cZ cP cQ ad H.size) (cwV 0 hts gX8_estimateOf_X6_byMoved rfl rfl rfl (by decide +kernel) ⟨Nat.le_of_ble_eq_true rfl, Nat.le_of_ble_eq_true rfl⟩) (z_pV (ci := 6) hK hP hD zX_nil [2] (by decide) rfl rfl 2 rfl) rfl rfl hl.1 rfl (lv_room (Nat.le_of_ble_eq_true rfl)) dX8_estimateOf_42 ⟨Nat.le_of_ble_eq_true rfl, Nat.le_of_ble_eq_true rfl⟩) hP hD hS hA [2] [0, 1] [0, 1, 2] rfl rfl (by decide) (by decide) (fun _ => rfl) (by decide) (fun r10 u9 H locs hp11 hP hD hS => ?_)
    have hP : va_P (dC, dI) vwCl [(ad 0, .inr (8, xf0 ad)), (ad 23, .inr (5, xf23 ad)), (ad 38, .inr (6, xf38 ad))] H := hP
    have hD : va_D A [(ad 0, .inr (8, xf0 ad)), (ad 23, .inr (5, xf23 ad)), (ad 38, .inr (6, xf38 ad))] := hD
    refine W.widen (k := 0) (n := 0) (by decide) (by decide) ?_
    obtain rfl : r10 = (-9000000000000000000) := hp11
    exact z_lret () hx hb hr hlocks hK hP hD hS hAe hQ rfl (Or.inl (⟨rfl, f4⟩)) dX8_estimateOf_45
  · refine z_finl (w' := fun (u12 : Unit) => [(ad 0, .inr (8, xf0 ad)), (ad 23, .inr (5, xf23 ad)), (ad 38, .inr (6, xf38 ad))]) (va_runV (As := []) (rest := []) ⟨hx, hb, hml, hown, hts⟩ (c_X6_byMoved_57 l dC dI cB cI cJ cZ cP cQ ad H.size) (cwV 0 hts gX8_estimateOf_X6_byMoved rfl rfl rfl (by decide +kernel) ⟨Nat.le_of_ble_eq_true rfl, Nat.le_of_ble_eq_true rfl⟩) (z_pV (ci := 6) hK hP hD zX_nil [2] (by decide) rfl rfl 2 rfl) rfl rfl hl.1 rfl (lv_room (Nat.le_of_ble_eq_true rfl)) dX8_estimateOf_42 ⟨Nat.le_of_ble_eq_true rfl, Nat.le_of_ble_eq_true rfl⟩) hP hD hS hA [2] [0, 1] [0, 1, 2] rfl rfl (by decide) (by decide) (fun _ => rfl) (by decide) (fun r13 u12 H locs hp14 hP hD hS => ?_)
    have hP : va_P (dC, dI) vwCl [(ad 0, .inr (8, xf0 ad)), (ad 23, .inr (5, xf23 ad)), (ad 38, .inr (6, xf38 ad))] H := hP
    have hD : va_D A [(ad 0, .inr (8, xf0 ad)), (ad 23, .inr (5, xf23 ad)), (ad 38, .inr (6, xf38 ad))] := hD
    refine W.widen (k := 0) (n := 0) (by decide) (by decide) ?_
    obtain rfl : r13 = (-9000000000000000000) := hp14
    exact z_lret () hx hb hr hlocks hK hP hD hS hAe hQ rfl (Or.inr (Or.inl ⟨rfl, f5, f6⟩)) dX8_estimateOf_45
  · refine z_finl (w' := fun (u15 : Unit) => [(ad 0, .inr (8, xf0 ad)), (ad 23, .inr (5, xf23 ad)), (ad 38, .inr (6, xf38 ad))]) (va_runV (As := []) (rest := []) ⟨hx, hb, hml, hown, hts⟩ (c_X6_byMoved_57 l dC dI cB cI cJ cZ cP cQ ad H.size) (cwV 0 hts gX8_estimateOf_X6_byMoved rfl rfl rfl (by decide +kernel) ⟨Nat.le_of_ble_eq_true rfl, Nat.le_of_ble_eq_true rfl⟩) (z_pV (ci := 6) hK hP hD zX_nil [2] (by decide) rfl rfl 2 rfl) rfl rfl hl.1 rfl (lv_room (Nat.le_of_ble_eq_true rfl)) dX8_estimateOf_42 ⟨Nat.le_of_ble_eq_true rfl, Nat.le_of_ble_eq_true rfl⟩) hP hD hS hA [2] [0, 1] [0, 1, 2] rfl rfl (by decide) (by decide) (fun _ => rfl) (by decide) (fun r16 u15 H locs hp17 hP hD hS => ?_)
    have hP : va_P (dC, dI) vwCl [(ad 0, .inr (8, xf0 ad)), (ad 23, .inr (5, xf23 ad)), (ad 38, .inr (6, xf38 ad))] H := hP
    have hD : va_D A [(ad 0, .inr (8, xf0 ad)), (ad 23, .inr (5, xf23 ad)), (ad 38, .inr (6, xf38 ad))] := hD
    refine W.widen (k := 0) (n := 0) (by decide) (by decide) ?_
    obtain rfl : r16 = (-9000000000000000000) := hp17
    exact z_lret () hx hb hr hlocks hK hP hD hS hAe hQ rfl (Or.inr (Or.inr ⟨rfl, f7, f8⟩)) dX8_estimateOf_45
set_option maxHeartbeats 4000000 in
set_option maxRecDepth 100000 in
theorem c_X8_leanOf_100 (l : Launch) (dC : Nat → ClassId) (dI : Nat → Nat → Nat) (cB cI cJ cZ cP cQ : ClassId) (ad : Nat → Nat) (sz : Nat) (p2 : Int32) : Met l yX8_leanOf wsX8_leanOf ({ frames := 4, cells := 0, slots := 0, locals := 90 } : Room) (zPc [.ref (ad 0), .int 1, .int p2] (dC, dI) (zT cB cI cJ cZ cP cQ) [(ad 0, .inr (8, xf0 ad)), (ad 23, .inr (5, xf23 ad)), (ad 38, .inr (6, xf38 ad))] sz [] []) (va_Ql (fun r _ => (fun r => (r = (-9000000000000000000) ∧ p2.toInt < 1) ∨ (r = (-9000000000000000000) ∧ 1 ≤ p2.toInt ∧ 4094 < p2.toInt) ∨ (r = (-9000000000000000000) ∧ 1 ≤ p2.toInt ∧ p2.toInt ≤ 4094)) r) (zB (dC, dI) (zT cB cI cJ cZ cP cQ) (fun _ : Unit => [(ad 0, .inr (8, xf0 ad)), (ad 23, .inr (5, xf23 ad)), (ad 38, .inr (6, xf38 ad))]) [(ad 0, .inr (8, xf0 ad)), (ad 23, .inr (5, xf23 ad)), (ad 38, .inr (6, xf38 ad))] sz) (va_A [(ad 0, .inr (8, xf0 ad)), (ad 23, .inr (5, xf23 ad)), (ad 38, .inr (6, xf38 ad))] sz)) 0 0 (va_A [(ad 0, .inr (8, xf0 ad)), (ad 23, .inr (5, xf23 ad)), (ad 38, .inr (6, xf38 ad))] sz) := by
  refine z_enter (cc := cX8_leanOf) (maxL := 7) (ret := (some .long)) (by decide) rfl (Nat.le_of_ble_eq_true rfl) ?_
  intro p e s m below meth c A ls Q H locs hx hb hr hml hown hts hlocks hin hK hP hD hA hX hS hAe hQ hl
  have hown : s.vm.findClass RX8 = some m.cls := hown
  have hi8 : ∀ w ∈ wsX80, w ∈ wsX8_leanOf := fun w h => List.mem_cons_of_mem _ (List.mem_append_left _ (List.mem_append_left _ (List.mem_append_left _ (List.mem_append_left _ (List.mem_append_right _ h)))))
  have hk0 := hts (.fieldLink RX8 29 "MonthPush" "all" "LMonthPush$Sheets;") (by decide +kernel)
  have hk1 := hts (.constantLong RX8 282 (-9000000000000000000)) (by decide +kernel)
  have hl : lv_has ls 7 [(0, .ref (ad 0)), (1, .int 1), (2, .int p2)] := hl
  refine lv_aload_n hx hb dX8_leanOf_0 rfl (lv_at hl 0 rfl) ?_
  refine lv_iload_n hx hb dX8_leanOf_1 rfl (lv_at hl 1 rfl) ?_
  refine lv_iload_n hx hb dX8_leanOf_2 rfl (lv_at hl 2 rfl) ?_
  refine z_finl (w' := fun (u1 : Unit) => [(ad 0, .inr (8, xf0 ad)), (ad 23, .inr (5, xf23 ad)), (ad 38, .inr (6, xf38 ad))]) (va_runV (As := [.int 1, .int p2]) (rest := []) ⟨hx, hb, hml, hown, hts⟩ (c_X8_estimateOf_100 l dC dI cB cI cJ cZ cP cQ ad H.size p2) (cwV 2 hts gX8_leanOf_X8_estimateOf rfl rfl rfl (by decide +kernel) ⟨Nat.le_of_ble_eq_true rfl, Nat.le_of_ble_eq_true rfl⟩) (z_pV (ci := 8) hK hP hD zX_nil [0, 1, 2] (by decide) rfl rfl 0 rfl) rfl rfl hl.1 rfl (lv_room (Nat.le_of_ble_eq_true rfl)) dX8_leanOf_3 ⟨Nat.le_of_ble_eq_true rfl, Nat.le_of_ble_eq_true rfl⟩) hP hD hS hA [0, 1, 2] [] [0, 1, 2] rfl rfl (by decide) (by decide) (fun _ => rfl) (by decide) (fun r2 u1 H locs hp3 hP hD hS => ?_)
  have hP : va_P (dC, dI) vwCl [(ad 0, .inr (8, xf0 ad)), (ad 23, .inr (5, xf23 ad)), (ad 38, .inr (6, xf38 ad))] H := hP
  have hD : va_D A [(ad 0, .inr (8, xf0 ad)), (ad 23, .inr (5, xf23 ad)), (ad 38, .inr (6, xf38 ad))] := hD
  refine W.widen (k := 0) (n := 0) (by decide) (by decide) ?_
  rcases hp3 with ⟨rfl, f4⟩ | ⟨rfl, f5, f6⟩ | ⟨rfl, f7, f8⟩
  · refine lv_lstore_n (lv' := [(3, .long (-9000000000000000000)), (0, .ref (ad 0)), (1, .int 1), (2, .int p2)]) hx hb dX8_leanOf_6 rfl hl (by decide) rfl (fun ls hl => ?_)
    refine lv_aload_n hx hb dX8_leanOf_7 rfl (lv_at hl 1 rfl) ?_
    refine lv_aload_n hx hb dX8_leanOf_8 rfl (lv_at hl 1 rfl) ?_
    refine va_get (D := (dC, dI)) (ci := 8) (v := .ref (ad 23)) (C := RX8) (T := TX8) (N := 10) hx hb hts hi8 hown hK hP 0 rfl rfl 3 (by decide) hk0 (fun _ h9 => h9) rfl dX8_leanOf_9 ?_
    refine lv_iconst (v := 1) hx hb dX8_leanOf_12 (by decide) ?_
    refine z_finl (w' := fun (u9 : Unit) => [(ad 0, .inr (8, xf0 ad)), (ad 23, .inr (5, xf23 ad)), (ad 38, .inr (6, xf38 ad))]) (va_runV (As := [.ref (ad 23), .int 1]) (rest := []) ⟨hx, hb, hml, hown, hts⟩ (c_X8_truthOf_92 l dC dI cB cI cJ cZ cP cQ ad H.size) (cwV 2 hts gX8_leanOf_X8_truthOf rfl rfl rfl (by decide +kernel) ⟨Nat.le_of_ble_eq_true rfl, Nat.le_of_ble_eq_true rfl⟩) (z_pV (ci := 8) hK hP hD zX_nil [0, 1] (by decide) rfl rfl 0 rfl) rfl rfl hl.1 rfl (lv_room (Nat.le_of_ble_eq_true rfl)) dX8_leanOf_13 ⟨Nat.le_of_ble_eq_true rfl, Nat.le_of_ble_eq_true rfl⟩) hP hD hS hA [0, 1] [2] [1, 2, 0] rfl rfl (by decide) (by decide) (fun _ => rfl) (by decide) (fun r10 u9 H locs hp11 hP hD hS => ?_)
    have hP : va_P (dC, dI) vwCl [(ad 0, .inr (8, xf0 ad)), (ad 23, .inr (5, xf23 ad)), (ad 38, .inr (6, xf38 ad))] H := hP
    have hD : va_D A [(ad 0, .inr (8, xf0 ad)), (ad 23, .inr (5, xf23 ad)), (ad 38, .inr (6, xf38 ad))] := hD
    refine W.widen (k := 0) (n := 0) (by decide) (by decide) ?_
    obtain rfl : r10 = (-9000000000000000000) := hp11
    refine lv_lstore (lv' := [(5, .long (-9000000000000000000)), (3, .long (-9000000000000000000)), (0, .ref (ad 0)), (1, .int 1), (2, .int p2)]) hx hb dX8_leanOf_16 hl (by decide) rfl (fun ls hl => ?_)
    refine lv_lload_n hx hb dX8_leanOf_18 rfl (lv_at hl 1 rfl) ?_
    refine lv_ldc2 hx hb hown hk1 dX8_leanOf_19 ?_
    refine W.lcmp hx hb dX8_leanOf_22 ?_
    refine z_topi (y := 0) (by decide +kernel) ?_
    refine lv_if_eq (tgt := 35) hx hb dX8_leanOf_23 (by decide) (fun _ => ?_) (fun c => absurd (by decide) c)
    refine lv_ldc2 hx hb hown hk1 dX8_leanOf_35 ?_
    refine lv_goto (tgt := 45) hx hb dX8_leanOf_38 (by decide) ?_
    exact z_lret () hx hb hr hlocks hK hP hD hS hAe hQ rfl (Or.inl (⟨rfl, f4⟩)) dX8_leanOf_45
  · refine lv_lstore_n (lv' := [(3, .long (-9000000000000000000)), (0, .ref (ad 0)), (1, .int 1), (2, .int p2)]) hx hb dX8_leanOf_6 rfl hl (by decide) rfl (fun ls hl => ?_)
    refine lv_aload_n hx hb dX8_leanOf_7 rfl (lv_at hl 1 rfl) ?_
    refine lv_aload_n hx hb dX8_leanOf_8 rfl (lv_at hl 1 rfl) ?_
    refine va_get (D := (dC, dI)) (ci := 8) (v := .ref (ad 23)) (C := RX8) (T := TX8) (N := 10) hx hb hts hi8 hown hK hP 0 rfl rfl 3 (by decide) hk0 (fun _ h9 => h9) rfl dX8_leanOf_9 ?_
    refine lv_iconst (v := 1) hx hb dX8_leanOf_12 (by decide) ?_
    refine z_finl (w' := fun (u12 : Unit) => [(ad 0, .inr (8, xf0 ad)), (ad 23, .inr (5, xf23 ad)), (ad 38, .inr (6, xf38 ad))]) (va_runV (As := [.ref (ad 23), .int 1]) (rest := []) ⟨hx, hb, hml, hown, hts⟩ (c_X8_truthOf_92 l dC dI cB cI cJ cZ cP cQ ad H.size) (cwV 2 hts gX8_leanOf_X8_truthOf rfl rfl rfl (by decide +kernel) ⟨Nat.le_of_ble_eq_true rfl, Nat.le_of_ble_eq_true rfl⟩) (z_pV (ci := 8) hK hP hD zX_nil [0, 1] (by decide) rfl rfl 0 rfl) rfl rfl hl.1 rfl (lv_room (Nat.le_of_ble_eq_true rfl)) dX8_leanOf_13 ⟨Nat.le_of_ble_eq_true rfl, Nat.le_of_ble_eq_true rfl⟩) hP hD hS hA [0, 1] [2] [1, 2, 0] rfl rfl (by decide) (by decide) (fun _ => rfl) (by decide) (fun r13 u12 H locs hp14 hP hD hS => ?_)
    have hP : va_P (dC, dI) vwCl [(ad 0, .inr (8, xf0 ad)), (ad 23, .inr (5, xf23 ad)), (ad 38, .inr (6, xf38 ad))] H := hP
    have hD : va_D A [(ad 0, .inr (8, xf0 ad)), (ad 23, .inr (5, xf23 ad)), (ad 38, .inr (6, xf38 ad))] := hD
    refine W.widen (k := 0) (n := 0) (by decide) (by decide) ?_
    obtain rfl : r13 = (-9000000000000000000) := hp14
    refine lv_lstore (lv' := [(5, .long (-9000000000000000000)), (3, .long (-9000000000000000000)), (0, .ref (ad 0)), (1, .int 1), (2, .int p2)]) hx hb dX8_leanOf_16 hl (by decide) rfl (fun ls hl => ?_)
    refine lv_lload_n hx hb dX8_leanOf_18 rfl (lv_at hl 1 rfl) ?_
    refine lv_ldc2 hx hb hown hk1 dX8_leanOf_19 ?_
    refine W.lcmp hx hb dX8_leanOf_22 ?_
    refine z_topi (y := 0) (by decide +kernel) ?_
    refine lv_if_eq (tgt := 35) hx hb dX8_leanOf_23 (by decide) (fun _ => ?_) (fun c => absurd (by decide) c)
    refine lv_ldc2 hx hb hown hk1 dX8_leanOf_35 ?_
    refine lv_goto (tgt := 45) hx hb dX8_leanOf_38 (by decide) ?_
    exact z_lret () hx hb hr hlocks hK hP hD hS hAe hQ rfl (Or.inr (Or.inl ⟨rfl, f5, f6⟩)) dX8_leanOf_45
  · refine lv_lstore_n (lv' := [(3, .long (-9000000000000000000)), (0, .ref (ad 0)), (1, .int 1), (2, .int p2)]) hx hb dX8_leanOf_6 rfl hl (by decide) rfl (fun ls hl => ?_)
    refine lv_aload_n hx hb dX8_leanOf_7 rfl (lv_at hl 1 rfl) ?_
    refine lv_aload_n hx hb dX8_leanOf_8 rfl (lv_at hl 1 rfl) ?_
    refine va_get (D := (dC, dI)) (ci := 8) (v := .ref (ad 23)) (C := RX8) (T := TX8) (N := 10) hx hb hts hi8 hown hK hP 0 rfl rfl 3 (by decide) hk0 (fun _ h9 => h9) rfl dX8_leanOf_9 ?_
    refine lv_iconst (v := 1) hx hb dX8_leanOf_12 (by decide) ?_
    refine z_finl (w' := fun (u15 : Unit) => [(ad 0, .inr (8, xf0 ad)), (ad 23, .inr (5, xf23 ad)), (ad 38, .inr (6, xf38 ad))]) (va_runV (As := [.ref (ad 23), .int 1]) (rest := []) ⟨hx, hb, hml, hown, hts⟩ (c_X8_truthOf_92 l dC dI cB cI cJ cZ cP cQ ad H.size) (cwV 2 hts gX8_leanOf_X8_truthOf rfl rfl rfl (by decide +kernel) ⟨Nat.le_of_ble_eq_true rfl, Nat.le_of_ble_eq_true rfl⟩) (z_pV (ci := 8) hK hP hD zX_nil [0, 1] (by decide) rfl rfl 0 rfl) rfl rfl hl.1 rfl (lv_room (Nat.le_of_ble_eq_true rfl)) dX8_leanOf_13 ⟨Nat.le_of_ble_eq_true rfl, Nat.le_of_ble_eq_true rfl⟩) hP hD hS hA [0, 1] [2] [1, 2, 0] rfl rfl (by decide) (by decide) (fun _ => rfl) (by decide) (fun r16 u15 H locs hp17 hP hD hS => ?_)
    have hP : va_P (dC, dI) vwCl [(ad 0, .inr (8, xf0 ad)), (ad 23, .inr (5, xf23 ad)), (ad 38, .inr (6, xf38 ad))] H := hP
    have hD : va_D A [(ad 0, .inr (8, xf0 ad)), (ad 23, .inr (5, xf23 ad)), (ad 38, .inr (6, xf38 ad))] := hD
    refine W.widen (k := 0) (n := 0) (by decide) (by decide) ?_
    obtain rfl : r16 = (-9000000000000000000) := hp17
    refine lv_lstore (lv' := [(5, .long (-9000000000000000000)), (3, .long (-9000000000000000000)), (0, .ref (ad 0)), (1, .int 1), (2, .int p2)]) hx hb dX8_leanOf_16 hl (by decide) rfl (fun ls hl => ?_)
    refine lv_lload_n hx hb dX8_leanOf_18 rfl (lv_at hl 1 rfl) ?_
    refine lv_ldc2 hx hb hown hk1 dX8_leanOf_19 ?_
    refine W.lcmp hx hb dX8_leanOf_22 ?_
    refine z_topi (y := 0) (by decide +kernel) ?_
    refine lv_if_eq (tgt := 35) hx hb dX8_leanOf_23 (by decide) (fun _ => ?_) (fun c => absurd (by decide) c)
    refine lv_ldc2 hx hb hown hk1 dX8_leanOf_35 ?_
    refine lv_goto (tgt := 45) hx hb dX8_leanOf_38 (by decide) ?_
    exact z_lret () hx hb hr hlocks hK hP hD hS hAe hQ rfl (Or.inr (Or.inr ⟨rfl, f7, f8⟩)) dX8_leanOf_45
set_option maxHeartbeats 4000000 in
set_option maxRecDepth 100000 in
theorem c_X8_estimateOf_102 (l : Launch) (dC : Nat → ClassId) (dI : Nat → Nat → Nat) (cB cI cJ cZ cP cQ : ClassId) (ad : Nat → Nat) (sz : Nat) (p2 : Int32) : Met l yX8_estimateOf wsX8_estimateOf ({ frames := 3, cells := 0, slots := 0, locals := 74 } : Room) (zPc [.ref (ad 0), .int 2, .int p2] (dC, dI) (zT cB cI cJ cZ cP cQ) [(ad 0, .inr (8, xf0 ad)), (ad 23, .inr (5, xf23 ad)), (ad 39, .inr (1, xf39 ad)), (ad 40, .inl (cJ, 72, .inr (.inl (fun _ => 0)))), (ad 41, .inl (cJ, 72, .inr (.inl (fun _ => 0)))), (ad 42, .inl (cJ, 72, .inr (.inl (fun _ => 0))))] sz [(RX1, 44, yX8_thousandths, "MonthPush")] []) (va_Ql (fun r _ => (fun r => r = (-9000000000000000000)) r) (zB (dC, dI) (zT cB cI cJ cZ cP cQ) (fun _ : Unit => [(ad 0, .inr (8, xf0 ad)), (ad 23, .inr (5, xf23 ad)), (ad 39, .inr (1, xf39 ad)), (ad 40, .inl (cJ, 72, .inr (.inl (fun _ => 0)))), (ad 41, .inl (cJ, 72, .inr (.inl (fun _ => 0)))), (ad 42, .inl (cJ, 72, .inr (.inl (fun _ => 0))))]) [(ad 0, .inr (8, xf0 ad)), (ad 23, .inr (5, xf23 ad)), (ad 39, .inr (1, xf39 ad)), (ad 40, .inl (cJ, 72, .inr (.inl (fun _ => 0)))), (ad 41, .inl (cJ, 72, .inr (.inl (fun _ => 0)))), (ad 42, .inl (cJ, 72, .inr (.inl (fun _ => 0))))] sz) (va_A [(ad 0, .inr (8, xf0 ad)), (ad 23, .inr (5, xf23 ad)), (ad 39, .inr (1, xf39 ad)), (ad 40, .inl (cJ, 72, .inr (.inl (fun _ => 0)))), (ad 41, .inl (cJ, 72, .inr (.inl (fun _ => 0)))), (ad 42, .inl (cJ, 72, .inr (.inl (fun _ => 0))))] sz)) 0 0 (va_A [(ad 0, .inr (8, xf0 ad)), (ad 23, .inr (5, xf23 ad)), (ad 39, .inr (1, xf39 ad)), (ad 40, .inl (cJ, 72, .inr (.inl (fun _ => 0)))), (ad 41, .inl (cJ, 72, .inr (.inl (fun _ => 0)))), (ad 42, .inl (cJ, 72, .inr (.inl (fun _ => 0))))] sz) := by
  refine z_enter (cc := cX8_estimateOf) (maxL := 3) (ret := (some .long)) (by decide) rfl (Nat.le_of_ble_eq_true rfl) ?_
  intro p e s m below meth c A ls Q H locs hx hb hr hml hown hts hlocks hin hK hP hD hA hX hS hAe hQ hl
  have hown : s.vm.findClass RX8 = some m.cls := hown
  have hl : lv_has ls 3 [(0, .ref (ad 0)), (1, .int 2), (2, .int p2)] := hl
  refine lv_iload_n hx hb dX8_estimateOf_0 rfl (lv_at hl 1 rfl) ?_
  refine lv_tableIn (off := 45) (tgt := 46) hx hb dX8_estimateOf_1 (by decide) (by decide) (by decide) (by decide) ?_
  refine lv_aload_n hx hb dX8_estimateOf_46 rfl (lv_at hl 0 rfl) ?_
  refine z_finl (w' := fun (u1 : Unit) => [(ad 0, .inr (8, xf0 ad)), (ad 23, .inr (5, xf23 ad)), (ad 39, .inr (1, xf39 ad)), (ad 40, .inl (cJ, 72, .inr (.inl (fun _ => 0)))), (ad 41, .inl (cJ, 72, .inr (.inl (fun _ => 0)))), (ad 42, .inl (cJ, 72, .inr (.inl (fun _ => 0))))]) (va_runV (As := []) (rest := []) ⟨hx, hb, hml, hown, hts⟩ (c_X8_manyOf_61 l dC dI cB cI cJ cZ cP cQ ad H.size) (cwV 0 hts gX8_estimateOf_X8_manyOf rfl rfl rfl (by decide +kernel) ⟨Nat.le_of_ble_eq_true rfl, Nat.le_of_ble_eq_true rfl⟩) (z_pV (ci := 8) hK hP hD (zX_sub hX (by decide +kernel) (by decide +kernel)) [0, 1, 2, 3, 4, 5] (by decide) rfl rfl 0 rfl) rfl rfl hl.1 rfl (lv_room (Nat.le_of_ble_eq_true rfl)) dX8_estimateOf_47 ⟨Nat.le_of_ble_eq_true rfl, Nat.le_of_ble_eq_true rfl⟩) hP hD hS hA [0, 1, 2, 3, 4, 5] [] [0, 1, 2, 3, 4, 5] rfl rfl (by decide) (by decide) (fun _ => rfl) (by decide) (fun r2 u1 H locs hp3 hP hD hS => ?_)
  have hP : va_P (dC, dI) vwCl [(ad 0, .inr (8, xf0 ad)), (ad 23, .inr (5, xf23 ad)), (ad 39, .inr (1, xf39 ad)), (ad 40, .inl (cJ, 72, .inr (.inl (fun _ => 0)))), (ad 41, .inl (cJ, 72, .inr (.inl (fun _ => 0)))), (ad 42, .inl (cJ, 72, .inr (.inl (fun _ => 0))))] H := hP
  have hD : va_D A [(ad 0, .inr (8, xf0 ad)), (ad 23, .inr (5, xf23 ad)), (ad 39, .inr (1, xf39 ad)), (ad 40, .inl (cJ, 72, .inr (.inl (fun _ => 0)))), (ad 41, .inl (cJ, 72, .inr (.inl (fun _ => 0)))), (ad 42, .inl (cJ, 72, .inr (.inl (fun _ => 0))))] := hD
  refine W.widen (k := 0) (n := 0) (by decide) (by decide) ?_
  obtain rfl : r2 = (-9000000000000000000) := hp3
  exact z_lret () hx hb hr hlocks hK hP hD hS hAe hQ rfl rfl dX8_estimateOf_50
set_option maxHeartbeats 4000000 in
set_option maxRecDepth 100000 in
theorem c_X8_leanOf_102 (l : Launch) (dC : Nat → ClassId) (dI : Nat → Nat → Nat) (cB cI cJ cZ cP cQ : ClassId) (ad : Nat → Nat) (sz : Nat) (p2 : Int32) : Met l yX8_leanOf wsX8_leanOf ({ frames := 4, cells := 0, slots := 0, locals := 96 } : Room) (zPc [.ref (ad 0), .int 2, .int p2] (dC, dI) (zT cB cI cJ cZ cP cQ) [(ad 0, .inr (8, xf0 ad)), (ad 23, .inr (5, xf23 ad)), (ad 39, .inr (1, xf39 ad)), (ad 40, .inl (cJ, 72, .inr (.inl (fun _ => 0)))), (ad 41, .inl (cJ, 72, .inr (.inl (fun _ => 0)))), (ad 42, .inl (cJ, 72, .inr (.inl (fun _ => 0))))] sz [(RX1, 44, yX8_thousandths, "MonthPush")] []) (va_Ql (fun r _ => (fun r => r = (-9000000000000000000)) r) (zB (dC, dI) (zT cB cI cJ cZ cP cQ) (fun _ : Unit => [(ad 0, .inr (8, xf0 ad)), (ad 23, .inr (5, xf23 ad)), (ad 39, .inr (1, xf39 ad)), (ad 40, .inl (cJ, 72, .inr (.inl (fun _ => 0)))), (ad 41, .inl (cJ, 72, .inr (.inl (fun _ => 0)))), (ad 42, .inl (cJ, 72, .inr (.inl (fun _ => 0))))]) [(ad 0, .inr (8, xf0 ad)), (ad 23, .inr (5, xf23 ad)), (ad 39, .inr (1, xf39 ad)), (ad 40, .inl (cJ, 72, .inr (.inl (fun _ => 0)))), (ad 41, .inl (cJ, 72, .inr (.inl (fun _ => 0)))), (ad 42, .inl (cJ, 72, .inr (.inl (fun _ => 0))))] sz) (va_A [(ad 0, .inr (8, xf0 ad)), (ad 23, .inr (5, xf23 ad)), (ad 39, .inr (1, xf39 ad)), (ad 40, .inl (cJ, 72, .inr (.inl (fun _ => 0)))), (ad 41, .inl (cJ, 72, .inr (.inl (fun _ => 0)))), (ad 42, .inl (cJ, 72, .inr (.inl (fun _ => 0))))] sz)) 0 0 (va_A [(ad 0, .inr (8, xf0 ad)), (ad 23, .inr (5, xf23 ad)), (ad 39, .inr (1, xf39 ad)), (ad 40, .inl (cJ, 72, .inr (.inl (fun _ => 0)))), (ad 41, .inl (cJ, 72, .inr (.inl (fun _ => 0)))), (ad 42, .inl (cJ, 72, .inr (.inl (fun _ => 0))))] sz) := by
  refine z_enter (cc := cX8_leanOf) (maxL := 7) (ret := (some .long)) (by decide) rfl (Nat.le_of_ble_eq_true rfl) ?_
  intro p e s m below meth c A ls Q H locs hx hb hr hml hown hts hlocks hin hK hP hD hA hX hS hAe hQ hl
  have hown : s.vm.findClass RX8 = some m.cls := hown
  have hi8 : ∀ w ∈ wsX80, w ∈ wsX8_leanOf := fun w h => List.mem_cons_of_mem _ (List.mem_append_left _ (List.mem_append_left _ (List.mem_append_left _ (List.mem_append_left _ (List.mem_append_right _ h)))))
  have hk0 := hts (.fieldLink RX8 29 "MonthPush" "all" "LMonthPush$Sheets;") (by decide +kernel)
  have hk1 := hts (.constantLong RX8 282 (-9000000000000000000)) (by decide +kernel)
  have hl : lv_has ls 7 [(0, .ref (ad 0)), (1, .int 2), (2, .int p2)] := hl
  refine lv_aload_n hx hb dX8_leanOf_0 rfl (lv_at hl 0 rfl) ?_
  refine lv_iload_n hx hb dX8_leanOf_1 rfl (lv_at hl 1 rfl) ?_
  refine lv_iload_n hx hb dX8_leanOf_2 rfl (lv_at hl 2 rfl) ?_
  refine z_finl (w' := fun (u1 : Unit) => [(ad 0, .inr (8, xf0 ad)), (ad 23, .inr (5, xf23 ad)), (ad 39, .inr (1, xf39 ad)), (ad 40, .inl (cJ, 72, .inr (.inl (fun _ => 0)))), (ad 41, .inl (cJ, 72, .inr (.inl (fun _ => 0)))), (ad 42, .inl (cJ, 72, .inr (.inl (fun _ => 0))))]) (va_runV (As := [.int 2, .int p2]) (rest := []) ⟨hx, hb, hml, hown, hts⟩ (c_X8_estimateOf_102 l dC dI cB cI cJ cZ cP cQ ad H.size p2) (cwV 2 hts gX8_leanOf_X8_estimateOf rfl rfl rfl (by decide +kernel) ⟨Nat.le_of_ble_eq_true rfl, Nat.le_of_ble_eq_true rfl⟩) (z_pV (ci := 8) hK hP hD (zX_sub hX (by decide +kernel) (by decide +kernel)) [0, 1, 2, 3, 4, 5] (by decide) rfl rfl 0 rfl) rfl rfl hl.1 rfl (lv_room (Nat.le_of_ble_eq_true rfl)) dX8_leanOf_3 ⟨Nat.le_of_ble_eq_true rfl, Nat.le_of_ble_eq_true rfl⟩) hP hD hS hA [0, 1, 2, 3, 4, 5] [] [0, 1, 2, 3, 4, 5] rfl rfl (by decide) (by decide) (fun _ => rfl) (by decide) (fun r2 u1 H locs hp3 hP hD hS => ?_)
  have hP : va_P (dC, dI) vwCl [(ad 0, .inr (8, xf0 ad)), (ad 23, .inr (5, xf23 ad)), (ad 39, .inr (1, xf39 ad)), (ad 40, .inl (cJ, 72, .inr (.inl (fun _ => 0)))), (ad 41, .inl (cJ, 72, .inr (.inl (fun _ => 0)))), (ad 42, .inl (cJ, 72, .inr (.inl (fun _ => 0))))] H := hP
  have hD : va_D A [(ad 0, .inr (8, xf0 ad)), (ad 23, .inr (5, xf23 ad)), (ad 39, .inr (1, xf39 ad)), (ad 40, .inl (cJ, 72, .inr (.inl (fun _ => 0)))), (ad 41, .inl (cJ, 72, .inr (.inl (fun _ => 0)))), (ad 42, .inl (cJ, 72, .inr (.inl (fun _ => 0))))] := hD
  refine W.widen (k := 0) (n := 0) (by decide) (by decide) ?_
  obtain rfl : r2 = (-9000000000000000000) := hp3
  refine lv_lstore_n (lv' := [(3, .long (-9000000000000000000)), (0, .ref (ad 0)), (1, .int 2), (2, .int p2)]) hx hb dX8_leanOf_6 rfl hl (by decide) rfl (fun ls hl => ?_)
  refine lv_aload_n hx hb dX8_leanOf_7 rfl (lv_at hl 1 rfl) ?_
  refine lv_aload_n hx hb dX8_leanOf_8 rfl (lv_at hl 1 rfl) ?_
  refine va_get (D := (dC, dI)) (ci := 8) (v := .ref (ad 23)) (C := RX8) (T := TX8) (N := 10) hx hb hts hi8 hown hK hP 0 rfl rfl 3 (by decide) hk0 (fun _ h9 => h9) rfl dX8_leanOf_9 ?_
  refine lv_iconst (v := 1) hx hb dX8_leanOf_12 (by decide) ?_
  refine z_finl (w' := fun (u4 : Unit) => [(ad 0, .inr (8, xf0 ad)), (ad 23, .inr (5, xf23 ad)), (ad 39, .inr (1, xf39 ad)), (ad 40, .inl (cJ, 72, .inr (.inl (fun _ => 0)))), (ad 41, .inl (cJ, 72, .inr (.inl (fun _ => 0)))), (ad 42, .inl (cJ, 72, .inr (.inl (fun _ => 0))))]) (va_runV (As := [.ref (ad 23), .int 1]) (rest := []) ⟨hx, hb, hml, hown, hts⟩ (c_X8_truthOf_92 l dC dI cB cI cJ cZ cP cQ ad H.size) (cwV 2 hts gX8_leanOf_X8_truthOf rfl rfl rfl (by decide +kernel) ⟨Nat.le_of_ble_eq_true rfl, Nat.le_of_ble_eq_true rfl⟩) (z_pV (ci := 8) hK hP hD zX_nil [0, 1] (by decide) rfl rfl 0 rfl) rfl rfl hl.1 rfl (lv_room (Nat.le_of_ble_eq_true rfl)) dX8_leanOf_13 ⟨Nat.le_of_ble_eq_true rfl, Nat.le_of_ble_eq_true rfl⟩) hP hD hS hA [0, 1] [2, 3, 4, 5] [4, 5, 0, 1, 2, 3] rfl rfl (by decide) (by decide) (fun _ => rfl) (by decide) (fun r5 u4 H locs hp6 hP hD hS => ?_)
  have hP : va_P (dC, dI) vwCl [(ad 0, .inr (8, xf0 ad)), (ad 23, .inr (5, xf23 ad)), (ad 39, .inr (1, xf39 ad)), (ad 40, .inl (cJ, 72, .inr (.inl (fun _ => 0)))), (ad 41, .inl (cJ, 72, .inr (.inl (fun _ => 0)))), (ad 42, .inl (cJ, 72, .inr (.inl (fun _ => 0))))] H := hP
  have hD : va_D A [(ad 0, .inr (8, xf0 ad)), (ad 23, .inr (5, xf23 ad)), (ad 39, .inr (1, xf39 ad)), (ad 40, .inl (cJ, 72, .inr (.inl (fun _ => 0)))), (ad 41, .inl (cJ, 72, .inr (.inl (fun _ => 0)))), (ad 42, .inl (cJ, 72, .inr (.inl (fun _ => 0))))] := hD
  refine W.widen (k := 0) (n := 0) (by decide) (by decide) ?_
  obtain rfl : r5 = (-9000000000000000000) := hp6
  refine lv_lstore (lv' := [(5, .long (-9000000000000000000)), (3, .long (-9000000000000000000)), (0, .ref (ad 0)), (1, .int 2), (2, .int p2)]) hx hb dX8_leanOf_16 hl (by decide) rfl (fun ls hl => ?_)
  refine lv_lload_n hx hb dX8_leanOf_18 rfl (lv_at hl 1 rfl) ?_
  refine lv_ldc2 hx hb hown hk1 dX8_leanOf_19 ?_
  refine W.lcmp hx hb dX8_leanOf_22 ?_
  refine z_topi (y := 0) (by decide +kernel) ?_
  refine lv_if_eq (tgt := 35) hx hb dX8_leanOf_23 (by decide) (fun _ => ?_) (fun c => absurd (by decide) c)
  refine lv_ldc2 hx hb hown hk1 dX8_leanOf_35 ?_
  refine lv_goto (tgt := 45) hx hb dX8_leanOf_38 (by decide) ?_
  exact z_lret () hx hb hr hlocks hK hP hD hS hAe hQ rfl rfl dX8_leanOf_45
set_option maxHeartbeats 4000000 in
set_option maxRecDepth 100000 in
theorem c_X8_least_102 (l : Launch) (dC : Nat → ClassId) (dI : Nat → Nat → Nat) (cB cI cJ cZ cP cQ : ClassId) (ad : Nat → Nat) (sz : Nat) (p1 : Int32) : Met l yX8_least wsX8_least ({ frames := 5, cells := 0, slots := 0, locals := 122 } : Room) (zPc [.ref (ad 0), .int p1] (dC, dI) (zT cB cI cJ cZ cP cQ) [(ad 0, .inr (8, xf0 ad)), (ad 23, .inr (5, xf23 ad)), (ad 38, .inr (6, xf38 ad)), (ad 39, .inr (1, xf39 ad)), (ad 40, .inl (cJ, 72, .inr (.inl (fun _ => 0)))), (ad 41, .inl (cJ, 72, .inr (.inl (fun _ => 0)))), (ad 42, .inl (cJ, 72, .inr (.inl (fun _ => 0))))] sz [(RX1, 44, yX8_thousandths, "MonthPush")] []) (va_Qi (fun r _ => (fun r => (r = (-1) ∧ p1.toInt < 1) ∨ (r = (-1) ∧ 1 ≤ p1.toInt ∧ 4094 < p1.toInt) ∨ (r = (-1) ∧ 1 ≤ p1.toInt ∧ p1.toInt ≤ 4094)) r) (zB (dC, dI) (zT cB cI cJ cZ cP cQ) (fun _ : Unit => []) [(ad 0, .inr (8, xf0 ad)), (ad 23, .inr (5, xf23 ad)), (ad 38, .inr (6, xf38 ad)), (ad 39, .inr (1, xf39 ad)), (ad 40, .inl (cJ, 72, .inr (.inl (fun _ => 0)))), (ad 41, .inl (cJ, 72, .inr (.inl (fun _ => 0)))), (ad 42, .inl (cJ, 72, .inr (.inl (fun _ => 0))))] sz) (va_A [(ad 0, .inr (8, xf0 ad)), (ad 23, .inr (5, xf23 ad)), (ad 38, .inr (6, xf38 ad)), (ad 39, .inr (1, xf39 ad)), (ad 40, .inl (cJ, 72, .inr (.inl (fun _ => 0)))), (ad 41, .inl (cJ, 72, .inr (.inl (fun _ => 0)))), (ad 42, .inl (cJ, 72, .inr (.inl (fun _ => 0))))] sz)) 0 0 (va_A [(ad 0, .inr (8, xf0 ad)), (ad 23, .inr (5, xf23 ad)), (ad 38, .inr (6, xf38 ad)), (ad 39, .inr (1, xf39 ad)), (ad 40, .inl (cJ, 72, .inr (.inl (fun _ => 0)))), (ad 41, .inl (cJ, 72, .inr (.inl (fun _ => 0)))), (ad 42, .inl (cJ, 72, .inr (.inl (fun _ => 0))))] sz) := by
  refine z_enter (cc := cX8_least) (maxL := 8) (ret := (some .int)) (by decide) rfl (Nat.le_of_ble_eq_true rfl) ?_
  intro p e s m below meth c A ls Q H locs hx hb hr hml hown hts hlocks hin hK hP hD hA hX hS hAe hQ hl
  have hown : s.vm.findClass RX8 = some m.cls := hown
  have hk0 := hts (.constantLong RX8 282 (-9000000000000000000)) (by decide +kernel)
  have hl : lv_has ls 8 [(0, .ref (ad 0)), (1, .int p1)] := hl
  refine lv_iconst (v := (-1)) hx hb dX8_least_0 (by decide) ?_
  refine lv_istore_n (lv' := [(2, .int (-1)), (0, .ref (ad 0)), (1, .int p1)]) hx hb dX8_least_1 rfl hl (by decide) rfl (fun ls hl => ?_)
  refine lv_lconst (v := 0) hx hb dX8_least_2 (by decide) ?_
  refine lv_lstore_n (lv' := [(3, .long 0), (2, .int (-1)), (0, .ref (ad 0)), (1, .int p1)]) hx hb dX8_least_3 rfl hl (by decide) rfl (fun ls hl => ?_)
  refine lv_iconst (v := 0) hx hb dX8_least_4 (by decide) ?_
  refine lv_istore (lv' := [(5, .int 0), (3, .long 0), (2, .int (-1)), (0, .ref (ad 0)), (1, .int p1)]) hx hb dX8_least_5 hl (by decide) rfl (fun ls hl => ?_)
  refine lv_iload hx hb dX8_least_7 (lv_at hl 0 rfl) ?_
  refine lv_iconst (v := 2) hx hb dX8_least_9 (by decide) ?_
  refine lv_icmp_gt (tgt := 61) hx hb dX8_least_10 (by decide) (fun c => absurd c (by decide)) (fun _ => ?_)
  refine lv_aload_n hx hb dX8_least_13 rfl (lv_at hl 3 rfl) ?_
  refine lv_iload hx hb dX8_least_14 (lv_at hl 0 rfl) ?_
  refine lv_iload_n hx hb dX8_least_16 rfl (lv_at hl 4 rfl) ?_
  refine z_finl (w' := fun (u1 : Unit) => [(ad 0, .inr (8, xf0 ad)), (ad 23, .inr (5, xf23 ad)), (ad 38, .inr (6, xf38 ad)), (ad 39, .inr (1, xf39 ad)), (ad 40, .inl (cJ, 72, .inr (.inl (fun _ => 0)))), (ad 41, .inl (cJ, 72, .inr (.inl (fun _ => 0)))), (ad 42, .inl (cJ, 72, .inr (.inl (fun _ => 0))))]) (va_runV (As := [.int 0, .int p1]) (rest := []) ⟨hx, hb, hml, hown, hts⟩ (c_X8_leanOf_98 l dC dI cB cI cJ cZ cP cQ ad H.size p1) (cwV 2 hts gX8_least_X8_leanOf rfl rfl rfl (by decide +kernel) ⟨Nat.le_of_ble_eq_true rfl, Nat.le_of_ble_eq_true rfl⟩) (z_pV (ci := 8) hK hP hD zX_nil [0, 1, 2] (by decide) rfl rfl 0 rfl) rfl rfl hl.1 rfl (lv_room (Nat.le_of_ble_eq_true rfl)) dX8_least_17 ⟨Nat.le_of_ble_eq_true rfl, Nat.le_of_ble_eq_true rfl⟩) hP hD hS hA [0, 1, 2] [3, 4, 5, 6] [4, 5, 6, 0, 1, 2, 3] rfl rfl (by decide) (by decide) (fun _ => rfl) (by decide) (fun r2 u1 H locs hp3 hP hD hS => ?_)
  have hP : va_P (dC, dI) vwCl [(ad 0, .inr (8, xf0 ad)), (ad 23, .inr (5, xf23 ad)), (ad 38, .inr (6, xf38 ad)), (ad 39, .inr (1, xf39 ad)), (ad 40, .inl (cJ, 72, .inr (.inl (fun _ => 0)))), (ad 41, .inl (cJ, 72, .inr (.inl (fun _ => 0)))), (ad 42, .inl (cJ, 72, .inr (.inl (fun _ => 0))))] H := hP
  have hD : va_D A [(ad 0, .inr (8, xf0 ad)), (ad 23, .inr (5, xf23 ad)), (ad 38, .inr (6, xf38 ad)), (ad 39, .inr (1, xf39 ad)), (ad 40, .inl (cJ, 72, .inr (.inl (fun _ => 0)))), (ad 41, .inl (cJ, 72, .inr (.inl (fun _ => 0)))), (ad 42, .inl (cJ, 72, .inr (.inl (fun _ => 0))))] := hD
  refine W.widen (k := 0) (n := 0) (by decide) (by decide) ?_
  obtain rfl : r2 = (-9000000000000000000) := hp3
  refine lv_lstore (lv' := [(6, .long (-9000000000000000000)), (5, .int 0), (3, .long 0), (2, .int (-1)), (0, .ref (ad 0)), (1, .int p1)]) hx hb dX8_least_20 hl (by decide) rfl (fun ls hl => ?_)
  refine lv_lload hx hb dX8_least_22 (lv_at hl 0 rfl) ?_
  refine lv_ldc2 hx hb hown hk0 dX8_least_24 ?_
  refine W.lcmp hx hb dX8_least_27 ?_
  refine z_topi (y := 0) (by decide +kernel) ?_
  refine lv_if_eq (tgt := 55) hx hb dX8_least_28 (by decide) (fun _ => ?_) (fun c => absurd (by decide) c)
  refine lv_iinc (v := 1) (lv' := [(5, .int 1), (6, .long (-9000000000000000000)), (3, .long 0), (2, .int (-1)), (0, .ref (ad 0)), (1, .int p1)]) hx hb dX8_least_55 hl (k := 1) rfl (by decide) (by decide) rfl (fun ls hl => ?_)
  refine lv_goto (tgt := 7) hx hb dX8_least_58 (by decide) ?_
  refine lv_iload hx hb dX8_least_7 (lv_at hl 0 rfl) ?_
  refine lv_iconst (v := 2) hx hb dX8_least_9 (by decide) ?_
  refine lv_icmp_gt (tgt := 61) hx hb dX8_least_10 (by decide) (fun c => absurd c (by decide)) (fun _ => ?_)
  refine lv_aload_n hx hb dX8_least_13 rfl (lv_at hl 4 rfl) ?_
  refine lv_iload hx hb dX8_least_14 (lv_at hl 0 rfl) ?_
  refine lv_iload_n hx hb dX8_least_16 rfl (lv_at hl 5 rfl) ?_
  refine z_finl (w' := fun (u4 : Unit) => [(ad 0, .inr (8, xf0 ad)), (ad 23, .inr (5, xf23 ad)), (ad 38, .inr (6, xf38 ad)), (ad 39, .inr (1, xf39 ad)), (ad 40, .inl (cJ, 72, .inr (.inl (fun _ => 0)))), (ad 41, .inl (cJ, 72, .inr (.inl (fun _ => 0)))), (ad 42, .inl (cJ, 72, .inr (.inl (fun _ => 0))))]) (va_runV (As := [.int 1, .int p1]) (rest := []) ⟨hx, hb, hml, hown, hts⟩ (c_X8_leanOf_100 l dC dI cB cI cJ cZ cP cQ ad H.size p1) (cwV 2 hts gX8_least_X8_leanOf rfl rfl rfl (by decide +kernel) ⟨Nat.le_of_ble_eq_true rfl, Nat.le_of_ble_eq_true rfl⟩) (z_pV (ci := 8) hK hP hD zX_nil [0, 1, 2] (by decide) rfl rfl 0 rfl) rfl rfl hl.1 rfl (lv_room (Nat.le_of_ble_eq_true rfl)) dX8_least_17 ⟨Nat.le_of_ble_eq_true rfl, Nat.le_of_ble_eq_true rfl⟩) hP hD hS hA [0, 1, 2] [3, 4, 5, 6] [4, 5, 6, 0, 1, 2, 3] rfl rfl (by decide) (by decide) (fun _ => rfl) (by decide) (fun r5 u4 H locs hp6 hP hD hS => ?_)
  have hP : va_P (dC, dI) vwCl [(ad 0, .inr (8, xf0 ad)), (ad 23, .inr (5, xf23 ad)), (ad 38, .inr (6, xf38 ad)), (ad 39, .inr (1, xf39 ad)), (ad 40, .inl (cJ, 72, .inr (.inl (fun _ => 0)))), (ad 41, .inl (cJ, 72, .inr (.inl (fun _ => 0)))), (ad 42, .inl (cJ, 72, .inr (.inl (fun _ => 0))))] H := hP
  have hD : va_D A [(ad 0, .inr (8, xf0 ad)), (ad 23, .inr (5, xf23 ad)), (ad 38, .inr (6, xf38 ad)), (ad 39, .inr (1, xf39 ad)), (ad 40, .inl (cJ, 72, .inr (.inl (fun _ => 0)))), (ad 41, .inl (cJ, 72, .inr (.inl (fun _ => 0)))), (ad 42, .inl (cJ, 72, .inr (.inl (fun _ => 0))))] := hD
  refine W.widen (k := 0) (n := 0) (by decide) (by decide) ?_
  rcases hp6 with ⟨rfl, f7⟩ | ⟨rfl, f8, f9⟩ | ⟨rfl, f10, f11⟩
  · refine lv_lstore (lv' := [(6, .long (-9000000000000000000)), (5, .int 1), (3, .long 0), (2, .int (-1)), (0, .ref (ad 0)), (1, .int p1)]) hx hb dX8_least_20 hl (by decide) rfl (fun ls hl => ?_)
    refine lv_lload hx hb dX8_least_22 (lv_at hl 0 rfl) ?_
    refine lv_ldc2 hx hb hown hk0 dX8_least_24 ?_
    refine W.lcmp hx hb dX8_least_27 ?_
    refine z_topi (y := 0) (by decide +kernel) ?_
    refine lv_if_eq (tgt := 55) hx hb dX8_least_28 (by decide) (fun _ => ?_) (fun c => absurd (by decide) c)
    refine lv_iinc (v := 2) (lv' := [(5, .int 2), (6, .long (-9000000000000000000)), (3, .long 0), (2, .int (-1)), (0, .ref (ad 0)), (1, .int p1)]) hx hb dX8_least_55 hl (k := 1) rfl (by decide) (by decide) rfl (fun ls hl => ?_)
    refine lv_goto (tgt := 7) hx hb dX8_least_58 (by decide) ?_
    refine lv_iload hx hb dX8_least_7 (lv_at hl 0 rfl) ?_
    refine lv_iconst (v := 2) hx hb dX8_least_9 (by decide) ?_
    refine lv_icmp_gt (tgt := 61) hx hb dX8_least_10 (by decide) (fun c => absurd c (by decide)) (fun _ => ?_)
    refine lv_aload_n hx hb dX8_least_13 rfl (lv_at hl 4 rfl) ?_
    refine lv_iload hx hb dX8_least_14 (lv_at hl 0 rfl) ?_
    refine lv_iload_n hx hb dX8_least_16 rfl (lv_at hl 5 rfl) ?_
    refine z_finl (w' := fun (u12 : Unit) => [(ad 0, .inr (8, xf0 ad)), (ad 23, .inr (5, xf23 ad)), (ad 38, .inr (6, xf38 ad)), (ad 39, .inr (1, xf39 ad)), (ad 40, .inl (cJ, 72, .inr (.inl (fun _ => 0)))), (ad 41, .inl (cJ, 72, .inr (.inl (fun _ => 0)))), (ad 42, .inl (cJ, 72, .inr (.inl (fun _ => 0))))]) (va_runV (As := [.int 2, .int p1]) (rest := []) ⟨hx, hb, hml, hown, hts⟩ (c_X8_leanOf_102 l dC dI cB cI cJ cZ cP cQ ad H.size p1) (cwV 2 hts gX8_least_X8_leanOf rfl rfl rfl (by decide +kernel) ⟨Nat.le_of_ble_eq_true rfl, Nat.le_of_ble_eq_true rfl⟩) (z_pV (ci := 8) hK hP hD (zX_sub hX (by decide +kernel) (by decide +kernel)) [0, 1, 3, 4, 5, 6] (by decide) rfl rfl 0 rfl) rfl rfl hl.1 rfl (lv_room (Nat.le_of_ble_eq_true rfl)) dX8_least_17 ⟨Nat.le_of_ble_eq_true rfl, Nat.le_of_ble_eq_true rfl⟩) hP hD hS hA [0, 1, 3, 4, 5, 6] [2] [1, 2, 0, 3, 4, 5, 6] rfl rfl (by decide) (by decide) (fun _ => rfl) (by decide) (fun r13 u12 H locs hp14 hP hD hS => ?_)
    have hP : va_P (dC, dI) vwCl [(ad 0, .inr (8, xf0 ad)), (ad 23, .inr (5, xf23 ad)), (ad 38, .inr (6, xf38 ad)), (ad 39, .inr (1, xf39 ad)), (ad 40, .inl (cJ, 72, .inr (.inl (fun _ => 0)))), (ad 41, .inl (cJ, 72, .inr (.inl (fun _ => 0)))), (ad 42, .inl (cJ, 72, .inr (.inl (fun _ => 0))))] H := hP
    have hD : va_D A [(ad 0, .inr (8, xf0 ad)), (ad 23, .inr (5, xf23 ad)), (ad 38, .inr (6, xf38 ad)), (ad 39, .inr (1, xf39 ad)), (ad 40, .inl (cJ, 72, .inr (.inl (fun _ => 0)))), (ad 41, .inl (cJ, 72, .inr (.inl (fun _ => 0)))), (ad 42, .inl (cJ, 72, .inr (.inl (fun _ => 0))))] := hD
    refine W.widen (k := 0) (n := 0) (by decide) (by decide) ?_
    obtain rfl : r13 = (-9000000000000000000) := hp14
    refine lv_lstore (lv' := [(6, .long (-9000000000000000000)), (5, .int 2), (3, .long 0), (2, .int (-1)), (0, .ref (ad 0)), (1, .int p1)]) hx hb dX8_least_20 hl (by decide) rfl (fun ls hl => ?_)
    refine lv_lload hx hb dX8_least_22 (lv_at hl 0 rfl) ?_
    refine lv_ldc2 hx hb hown hk0 dX8_least_24 ?_
    refine W.lcmp hx hb dX8_least_27 ?_
    refine z_topi (y := 0) (by decide +kernel) ?_
    refine lv_if_eq (tgt := 55) hx hb dX8_least_28 (by decide) (fun _ => ?_) (fun c => absurd (by decide) c)
    refine lv_iinc (v := 3) (lv' := [(5, .int 3), (6, .long (-9000000000000000000)), (3, .long 0), (2, .int (-1)), (0, .ref (ad 0)), (1, .int p1)]) hx hb dX8_least_55 hl (k := 1) rfl (by decide) (by decide) rfl (fun ls hl => ?_)
    refine lv_goto (tgt := 7) hx hb dX8_least_58 (by decide) ?_
    refine lv_iload hx hb dX8_least_7 (lv_at hl 0 rfl) ?_
    refine lv_iconst (v := 2) hx hb dX8_least_9 (by decide) ?_
    refine lv_icmp_gt (tgt := 61) hx hb dX8_least_10 (by decide) (fun _ => ?_) (fun c => absurd (by decide) c)
    refine lv_iload_n hx hb dX8_least_61 rfl (lv_at hl 3 rfl) ?_
    have hP9 := hP.sub (ws' := []) [] rfl
    have hD9 := hD.sub (ws' := []) [] (by decide) rfl
    exact z_iret () hx hb hr hlocks hK hP9 hD9 hS hAe hQ rfl (Or.inl (⟨rfl, f7⟩)) dX8_least_62
  · refine lv_lstore (lv' := [(6, .long (-9000000000000000000)), (5, .int 1), (3, .long 0), (2, .int (-1)), (0, .ref (ad 0)), (1, .int p1)]) hx hb dX8_least_20 hl (by decide) rfl (fun ls hl => ?_)
    refine lv_lload hx hb dX8_least_22 (lv_at hl 0 rfl) ?_
    refine lv_ldc2 hx hb hown hk0 dX8_least_24 ?_
    refine W.lcmp hx hb dX8_least_27 ?_
    refine z_topi (y := 0) (by decide +kernel) ?_
    refine lv_if_eq (tgt := 55) hx hb dX8_least_28 (by decide) (fun _ => ?_) (fun c => absurd (by decide) c)
    refine lv_iinc (v := 2) (lv' := [(5, .int 2), (6, .long (-9000000000000000000)), (3, .long 0), (2, .int (-1)), (0, .ref (ad 0)), (1, .int p1)]) hx hb dX8_least_55 hl (k := 1) rfl (by decide) (by decide) rfl (fun ls hl => ?_)
    refine lv_goto (tgt := 7) hx hb dX8_least_58 (by decide) ?_
    refine lv_iload hx hb dX8_least_7 (lv_at hl 0 rfl) ?_
    refine lv_iconst (v := 2) hx hb dX8_least_9 (by decide) ?_
    refine lv_icmp_gt (tgt := 61) hx hb dX8_least_10 (by decide) (fun c => absurd c (by decide)) (fun _ => ?_)
    refine lv_aload_n hx hb dX8_least_13 rfl (lv_at hl 4 rfl) ?_
    refine lv_iload hx hb dX8_least_14 (lv_at hl 0 rfl) ?_
    refine lv_iload_n hx hb dX8_least_16 rfl (lv_at hl 5 rfl) ?_
    refine z_finl (w' := fun (u15 : Unit) => [(ad 0, .inr (8, xf0 ad)), (ad 23, .inr (5, xf23 ad)), (ad 38, .inr (6, xf38 ad)), (ad 39, .inr (1, xf39 ad)), (ad 40, .inl (cJ, 72, .inr (.inl (fun _ => 0)))), (ad 41, .inl (cJ, 72, .inr (.inl (fun _ => 0)))), (ad 42, .inl (cJ, 72, .inr (.inl (fun _ => 0))))]) (va_runV (As := [.int 2, .int p1]) (rest := []) ⟨hx, hb, hml, hown, hts⟩ (c_X8_leanOf_102 l dC dI cB cI cJ cZ cP cQ ad H.size p1) (cwV 2 hts gX8_least_X8_leanOf rfl rfl rfl (by decide +kernel) ⟨Nat.le_of_ble_eq_true rfl, Nat.le_of_ble_eq_true rfl⟩) (z_pV (ci := 8) hK hP hD (zX_sub hX (by decide +kernel) (by decide +kernel)) [0, 1, 3, 4, 5, 6] (by decide) rfl rfl 0 rfl) rfl rfl hl.1 rfl (lv_room (Nat.le_of_ble_eq_true rfl)) dX8_least_17 ⟨Nat.le_of_ble_eq_true rfl, Nat.le_of_ble_eq_true rfl⟩) hP hD hS hA [0, 1, 3, 4, 5, 6] [2] [1, 2, 0, 3, 4, 5, 6] rfl rfl (by decide) (by decide) (fun _ => rfl) (by decide) (fun r16 u15 H locs hp17 hP hD hS => ?_)
    have hP : va_P (dC, dI) vwCl [(ad 0, .inr (8, xf0 ad)), (ad 23, .inr (5, xf23 ad)), (ad 38, .inr (6, xf38 ad)), (ad 39, .inr (1, xf39 ad)), (ad 40, .inl (cJ, 72, .inr (.inl (fun _ => 0)))), (ad 41, .inl (cJ, 72, .inr (.inl (fun _ => 0)))), (ad 42, .inl (cJ, 72, .inr (.inl (fun _ => 0))))] H := hP
    have hD : va_D A [(ad 0, .inr (8, xf0 ad)), (ad 23, .inr (5, xf23 ad)), (ad 38, .inr (6, xf38 ad)), (ad 39, .inr (1, xf39 ad)), (ad 40, .inl (cJ, 72, .inr (.inl (fun _ => 0)))), (ad 41, .inl (cJ, 72, .inr (.inl (fun _ => 0)))), (ad 42, .inl (cJ, 72, .inr (.inl (fun _ => 0))))] := hD
    refine W.widen (k := 0) (n := 0) (by decide) (by decide) ?_
    obtain rfl : r16 = (-9000000000000000000) := hp17
    refine lv_lstore (lv' := [(6, .long (-9000000000000000000)), (5, .int 2), (3, .long 0), (2, .int (-1)), (0, .ref (ad 0)), (1, .int p1)]) hx hb dX8_least_20 hl (by decide) rfl (fun ls hl => ?_)
    refine lv_lload hx hb dX8_least_22 (lv_at hl 0 rfl) ?_
    refine lv_ldc2 hx hb hown hk0 dX8_least_24 ?_
    refine W.lcmp hx hb dX8_least_27 ?_
    refine z_topi (y := 0) (by decide +kernel) ?_
    refine lv_if_eq (tgt := 55) hx hb dX8_least_28 (by decide) (fun _ => ?_) (fun c => absurd (by decide) c)
    refine lv_iinc (v := 3) (lv' := [(5, .int 3), (6, .long (-9000000000000000000)), (3, .long 0), (2, .int (-1)), (0, .ref (ad 0)), (1, .int p1)]) hx hb dX8_least_55 hl (k := 1) rfl (by decide) (by decide) rfl (fun ls hl => ?_)
    refine lv_goto (tgt := 7) hx hb dX8_least_58 (by decide) ?_
    refine lv_iload hx hb dX8_least_7 (lv_at hl 0 rfl) ?_
    refine lv_iconst (v := 2) hx hb dX8_least_9 (by decide) ?_
    refine lv_icmp_gt (tgt := 61) hx hb dX8_least_10 (by decide) (fun _ => ?_) (fun c => absurd (by decide) c)
    refine lv_iload_n hx hb dX8_least_61 rfl (lv_at hl 3 rfl) ?_
    have hP9 := hP.sub (ws' := []) [] rfl
    have hD9 := hD.sub (ws' := []) [] (by decide) rfl
    exact z_iret () hx hb hr hlocks hK hP9 hD9 hS hAe hQ rfl (Or.inr (Or.inl ⟨rfl, f8, f9⟩)) dX8_least_62
  · refine lv_lstore (lv' := [(6, .long (-9000000000000000000)), (5, .int 1), (3, .long 0), (2, .int (-1)), (0, .ref (ad 0)), (1, .int p1)]) hx hb dX8_least_20 hl (by decide) rfl (fun ls hl => ?_)
    refine lv_lload hx hb dX8_least_22 (lv_at hl 0 rfl) ?_
    refine lv_ldc2 hx hb hown hk0 dX8_least_24 ?_
    refine W.lcmp hx hb dX8_least_27 ?_
    refine z_topi (y := 0) (by decide +kernel) ?_
    refine lv_if_eq (tgt := 55) hx hb dX8_least_28 (by decide) (fun _ => ?_) (fun c => absurd (by decide) c)
    refine lv_iinc (v := 2) (lv' := [(5, .int 2), (6, .long (-9000000000000000000)), (3, .long 0), (2, .int (-1)), (0, .ref (ad 0)), (1, .int p1)]) hx hb dX8_least_55 hl (k := 1) rfl (by decide) (by decide) rfl (fun ls hl => ?_)
    refine lv_goto (tgt := 7) hx hb dX8_least_58 (by decide) ?_
    refine lv_iload hx hb dX8_least_7 (lv_at hl 0 rfl) ?_
    refine lv_iconst (v := 2) hx hb dX8_least_9 (by decide) ?_
    refine lv_icmp_gt (tgt := 61) hx hb dX8_least_10 (by decide) (fun c => absurd c (by decide)) (fun _ => ?_)
    refine lv_aload_n hx hb dX8_least_13 rfl (lv_at hl 4 rfl) ?_
    refine lv_iload hx hb dX8_least_14 (lv_at hl 0 rfl) ?_
    refine lv_iload_n hx hb dX8_least_16 rfl (lv_at hl 5 rfl) ?_
    refine z_finl (w' := fun (u18 : Unit) => [(ad 0, .inr (8, xf0 ad)), (ad 23, .inr (5, xf23 ad)), (ad 38, .inr (6, xf38 ad)), (ad 39, .inr (1, xf39 ad)), (ad 40, .inl (cJ, 72, .inr (.inl (fun _ => 0)))), (ad 41, .inl (cJ, 72, .inr (.inl (fun _ => 0)))), (ad 42, .inl (cJ, 72, .inr (.inl (fun _ => 0))))]) (va_runV (As := [.int 2, .int p1]) (rest := []) ⟨hx, hb, hml, hown, hts⟩ (c_X8_leanOf_102 l dC dI cB cI cJ cZ cP cQ ad H.size p1) (cwV 2 hts gX8_least_X8_leanOf rfl rfl rfl (by decide +kernel) ⟨Nat.le_of_ble_eq_true rfl, Nat.le_of_ble_eq_true rfl⟩) (z_pV (ci := 8) hK hP hD (zX_sub hX (by decide +kernel) (by decide +kernel)) [0, 1, 3, 4, 5, 6] (by decide) rfl rfl 0 rfl) rfl rfl hl.1 rfl (lv_room (Nat.le_of_ble_eq_true rfl)) dX8_least_17 ⟨Nat.le_of_ble_eq_true rfl, Nat.le_of_ble_eq_true rfl⟩) hP hD hS hA [0, 1, 3, 4, 5, 6] [2] [1, 2, 0, 3, 4, 5, 6] rfl rfl (by decide) (by decide) (fun _ => rfl) (by decide) (fun r19 u18 H locs hp20 hP hD hS => ?_)
    have hP : va_P (dC, dI) vwCl [(ad 0, .inr (8, xf0 ad)), (ad 23, .inr (5, xf23 ad)), (ad 38, .inr (6, xf38 ad)), (ad 39, .inr (1, xf39 ad)), (ad 40, .inl (cJ, 72, .inr (.inl (fun _ => 0)))), (ad 41, .inl (cJ, 72, .inr (.inl (fun _ => 0)))), (ad 42, .inl (cJ, 72, .inr (.inl (fun _ => 0))))] H := hP
    have hD : va_D A [(ad 0, .inr (8, xf0 ad)), (ad 23, .inr (5, xf23 ad)), (ad 38, .inr (6, xf38 ad)), (ad 39, .inr (1, xf39 ad)), (ad 40, .inl (cJ, 72, .inr (.inl (fun _ => 0)))), (ad 41, .inl (cJ, 72, .inr (.inl (fun _ => 0)))), (ad 42, .inl (cJ, 72, .inr (.inl (fun _ => 0))))] := hD
    refine W.widen (k := 0) (n := 0) (by decide) (by decide) ?_
    obtain rfl : r19 = (-9000000000000000000) := hp20
    refine lv_lstore (lv' := [(6, .long (-9000000000000000000)), (5, .int 2), (3, .long 0), (2, .int (-1)), (0, .ref (ad 0)), (1, .int p1)]) hx hb dX8_least_20 hl (by decide) rfl (fun ls hl => ?_)
    refine lv_lload hx hb dX8_least_22 (lv_at hl 0 rfl) ?_
    refine lv_ldc2 hx hb hown hk0 dX8_least_24 ?_
    refine W.lcmp hx hb dX8_least_27 ?_
    refine z_topi (y := 0) (by decide +kernel) ?_
    refine lv_if_eq (tgt := 55) hx hb dX8_least_28 (by decide) (fun _ => ?_) (fun c => absurd (by decide) c)
    refine lv_iinc (v := 3) (lv' := [(5, .int 3), (6, .long (-9000000000000000000)), (3, .long 0), (2, .int (-1)), (0, .ref (ad 0)), (1, .int p1)]) hx hb dX8_least_55 hl (k := 1) rfl (by decide) (by decide) rfl (fun ls hl => ?_)
    refine lv_goto (tgt := 7) hx hb dX8_least_58 (by decide) ?_
    refine lv_iload hx hb dX8_least_7 (lv_at hl 0 rfl) ?_
    refine lv_iconst (v := 2) hx hb dX8_least_9 (by decide) ?_
    refine lv_icmp_gt (tgt := 61) hx hb dX8_least_10 (by decide) (fun _ => ?_) (fun c => absurd (by decide) c)
    refine lv_iload_n hx hb dX8_least_61 rfl (lv_at hl 3 rfl) ?_
    have hP9 := hP.sub (ws' := []) [] rfl
    have hD9 := hD.sub (ws' := []) [] (by decide) rfl
    exact z_iret () hx hb hr hlocks hK hP9 hD9 hS hAe hQ rfl (Or.inr (Or.inr ⟨rfl, f10, f11⟩)) dX8_least_62
set_option maxHeartbeats 4000000 in
set_option maxRecDepth 100000 in
theorem c_X8_beside_103 (l : Launch) (dC : Nat → ClassId) (dI : Nat → Nat → Nat) (cB cI cJ cZ cP cQ : ClassId) (ad : Nat → Nat) (sz : Nat) (p1 : Int32) (p2 : Int32) : Met l yX8_beside wsX8_beside ({ frames := 2, cells := 0, slots := 0, locals := 43 } : Room) (zPc [.ref (ad 0), .int p1, .int p2] (dC, dI) (zT cB cI cJ cZ cP cQ) [(ad 0, .inr (8, xf0 ad)), (ad 23, .inr (5, xf23 ad))] sz [] []) (va_Qi (fun r _ => (fun r => (r = (-2000000000) ∧ p1.toInt < 0) ∨ (r = (-2000000000) ∧ 0 ≤ p1.toInt)) r) (zB (dC, dI) (zT cB cI cJ cZ cP cQ) (fun _ : Unit => []) [(ad 0, .inr (8, xf0 ad)), (ad 23, .inr (5, xf23 ad))] sz) (va_A [(ad 0, .inr (8, xf0 ad)), (ad 23, .inr (5, xf23 ad))] sz)) 0 0 (va_A [(ad 0, .inr (8, xf0 ad)), (ad 23, .inr (5, xf23 ad))] sz) := by
  refine z_enter (cc := cX8_beside) (maxL := 6) (ret := (some .int)) (by decide) rfl (Nat.le_of_ble_eq_true rfl) ?_
  intro p e s m below meth c A ls Q H locs hx hb hr hml hown hts hlocks hin hK hP hD hA hX hS hAe hQ hl
  have hown : s.vm.findClass RX8 = some m.cls := hown
  have hi8 : ∀ w ∈ wsX80, w ∈ wsX8_beside := fun w h => List.mem_cons_of_mem _ (List.mem_append_left _ (List.mem_append_left _ (List.mem_append_right _ h)))
  have hk0 := hts (.fieldLink RX8 29 "MonthPush" "all" "LMonthPush$Sheets;") (by decide +kernel)
  have hk1 := hts (.constant RX8 214 (-2000000000)) (by decide +kernel)
  have hl : lv_has ls 6 [(0, .ref (ad 0)), (1, .int p1), (2, .int p2)] := hl
  refine lv_aload_n hx hb dX8_beside_0 rfl (lv_at hl 0 rfl) ?_
  refine lv_aload_n hx hb dX8_beside_1 rfl (lv_at hl 0 rfl) ?_
  refine va_get (D := (dC, dI)) (ci := 8) (v := .ref (ad 23)) (C := RX8) (T := TX8) (N := 10) hx hb hts hi8 hown hK hP 0 rfl rfl 3 (by decide) hk0 (fun _ h9 => h9) rfl dX8_beside_2 ?_
  refine lv_iload_n hx hb dX8_beside_5 rfl (lv_at hl 1 rfl) ?_
  refine z_fini (w' := fun (u1 : Unit) => [(ad 0, .inr (8, xf0 ad)), (ad 23, .inr (5, xf23 ad))]) (va_runV (As := [.ref (ad 23), .int p1]) (rest := []) ⟨hx, hb, hml, hown, hts⟩ (c_X8_isPlaced_40 l dC dI cB cI cJ cZ cP cQ ad H.size p1) (cwV 2 hts gX8_beside_X8_isPlaced rfl rfl rfl (by decide +kernel) ⟨Nat.le_of_ble_eq_true rfl, Nat.le_of_ble_eq_true rfl⟩) (z_pV (ci := 8) hK hP hD zX_nil [0, 1] (by decide) rfl rfl 0 rfl) rfl rfl hl.1 rfl (lv_room (Nat.le_of_ble_eq_true rfl)) dX8_beside_6 ⟨Nat.le_of_ble_eq_true rfl, Nat.le_of_ble_eq_true rfl⟩) hP hD hS hA [0, 1] [] [0, 1] rfl rfl (by decide) (by decide) (fun _ => rfl) (by decide) (fun r2 u1 H locs hp3 hP hD hS => ?_)
  have hP : va_P (dC, dI) vwCl [(ad 0, .inr (8, xf0 ad)), (ad 23, .inr (5, xf23 ad))] H := hP
  have hD : va_D A [(ad 0, .inr (8, xf0 ad)), (ad 23, .inr (5, xf23 ad))] := hD
  refine W.widen (k := 0) (n := 0) (by decide) (by decide) ?_
  rcases hp3 with ⟨rfl, f4⟩ | ⟨rfl, f5⟩
  · refine lv_if_eq (tgt := 19) hx hb dX8_beside_9 (by decide) (fun _ => ?_) (fun c => absurd (by decide) c)
    refine lv_ldc hx hb hown hk1 dX8_beside_19 ?_
    have hP9 := hP.sub (ws' := []) [] rfl
    have hD9 := hD.sub (ws' := []) [] (by decide) rfl
    exact z_iret () hx hb hr hlocks hK hP9 hD9 hS hAe hQ rfl (Or.inl (⟨rfl, f4⟩)) dX8_beside_21
  · refine lv_if_eq (tgt := 19) hx hb dX8_beside_9 (by decide) (fun _ => ?_) (fun c => absurd (by decide) c)
    refine lv_ldc hx hb hown hk1 dX8_beside_19 ?_
    have hP9 := hP.sub (ws' := []) [] rfl
    have hD9 := hD.sub (ws' := []) [] (by decide) rfl
    exact z_iret () hx hb hr hlocks hK hP9 hD9 hS hAe hQ rfl (Or.inr ⟨rfl, f5⟩) dX8_beside_21
set_option maxHeartbeats 4000000 in
set_option maxRecDepth 100000 in
theorem c_X8_within_105 (l : Launch) (dC : Nat → ClassId) (dI : Nat → Nat → Nat) (cB cI cJ cZ cP cQ : ClassId) (sz : Nat) (p0 : Int32) : Met l yX8_within wsX8_within ({ frames := 0, cells := 0, slots := 0, locals := 0 } : Room) (zPc [.int p0, .int 0, .int 1000000] (dC, dI) (zT cB cI cJ cZ cP cQ) [] sz [] []) (va_Qi (fun r _ => (fun r => (r = 0 ∧ p0.toInt < 0) ∨ (r = 0 ∧ 0 ≤ p0.toInt ∧ 1000000 < p0.toInt) ∨ (r = 1 ∧ 0 ≤ p0.toInt ∧ p0.toInt ≤ 1000000)) r) (zB (dC, dI) (zT cB cI cJ cZ cP cQ) (fun _ : Unit => []) [] sz) (va_A [] sz)) 0 0 (va_A [] sz) := by
  refine z_enter (cc := cX8_within) (maxL := 3) (ret := (some .boolean)) (by decide) rfl (Nat.le_of_ble_eq_true rfl) ?_
  intro p e s m below meth c A ls Q H locs hx hb hr hml hown hts hlocks hin hK hP hD hA hX hS hAe hQ hl
  have hown : s.vm.findClass RX8 = some m.cls := hown
  have hl : lv_has ls 3 [(0, .int p0), (1, .int 0), (2, .int 1000000)] := hl
  refine lv_iload_n hx hb dX8_within_0 rfl (lv_at hl 0 rfl) ?_
  refine lv_iload_n hx hb dX8_within_1 rfl (lv_at hl 1 rfl) ?_
  refine lv_icmp_lt (tgt := 14) hx hb dX8_within_2 (by decide) (fun c_1 => ?_) (fun c_1 => ?_)
  · have f2 : p0.toInt < 0 := z_lt rfl (by decide) c_1
    refine lv_iconst (v := 0) hx hb dX8_within_14 (by decide) ?_
    exact z_zret () hx hb hr hlocks hK hP hD hS hAe hQ rfl (Or.inl (⟨rfl, f2⟩)) (by decide) dX8_within_15
  · have f2 : 0 ≤ p0.toInt := z_nlt rfl (by decide) c_1
    refine lv_iload_n hx hb dX8_within_5 rfl (lv_at hl 0 rfl) ?_
    refine lv_iload_n hx hb dX8_within_6 rfl (lv_at hl 2 rfl) ?_
    refine lv_icmp_gt (tgt := 14) hx hb dX8_within_7 (by decide) (fun c_3 => ?_) (fun c_3 => ?_)
    · have f4 : 1000000 < p0.toInt := z_lt (by decide) rfl c_3
      refine lv_iconst (v := 0) hx hb dX8_within_14 (by decide) ?_
      exact z_zret () hx hb hr hlocks hK hP hD hS hAe hQ rfl (Or.inr (Or.inl ⟨rfl, f2, f4⟩)) (by decide) dX8_within_15
    · have f4 : p0.toInt ≤ 1000000 := z_nlt (by decide) rfl c_3
      refine lv_iconst (v := 1) hx hb dX8_within_10 (by decide) ?_
      refine lv_goto (tgt := 15) hx hb dX8_within_11 (by decide) ?_
      exact z_zret () hx hb hr hlocks hK hP hD hS hAe hQ rfl (Or.inr (Or.inr ⟨rfl, f2, f4⟩)) (by decide) dX8_within_15
set_option maxHeartbeats 4000000 in
set_option maxRecDepth 100000 in
theorem c_X8_needs_105 (l : Launch) (dC : Nat → ClassId) (dI : Nat → Nat → Nat) (cB cI cJ cZ cP cQ : ClassId) (ad : Nat → Nat) (sz : Nat) (p1 : Int32) (p2 : Int32) : Met l yX8_needs wsX8_needs ({ frames := 2, cells := 0, slots := 0, locals := 42 } : Room) (zPc [.ref (ad 0), .int p1, .int p2] (dC, dI) (zT cB cI cJ cZ cP cQ) [(ad 0, .inr (8, xf0 ad)), (ad 23, .inr (5, xf23 ad)), (ad 38, .inr (6, xf38 ad))] sz [] []) (va_Qi (fun r _ => (fun r => (r = (-2) ∧ p1.toInt < 1) ∨ (r = (-2) ∧ 1 ≤ p1.toInt ∧ 4094 < p1.toInt) ∨ (r = (-2) ∧ 1 ≤ p1.toInt ∧ p1.toInt ≤ 4094 ∧ p2.toInt < 0) ∨ (r = (-2) ∧ 1 ≤ p1.toInt ∧ p1.toInt ≤ 4094 ∧ 0 ≤ p2.toInt ∧ 1000000 < p2.toInt) ∨ (r = (-1) ∧ 1 ≤ p1.toInt ∧ p1.toInt ≤ 4094 ∧ 0 ≤ p2.toInt ∧ p2.toInt ≤ 1000000)) r) (zB (dC, dI) (zT cB cI cJ cZ cP cQ) (fun _ : Unit => []) [(ad 0, .inr (8, xf0 ad)), (ad 23, .inr (5, xf23 ad)), (ad 38, .inr (6, xf38 ad))] sz) (va_A [(ad 0, .inr (8, xf0 ad)), (ad 23, .inr (5, xf23 ad)), (ad 38, .inr (6, xf38 ad))] sz)) 0 0 (va_A [(ad 0, .inr (8, xf0 ad)), (ad 23, .inr (5, xf23 ad)), (ad 38, .inr (6, xf38 ad))] sz) := by
  refine z_enter (cc := cX8_needs) (maxL := 4) (ret := (some .int)) (by decide) rfl (Nat.le_of_ble_eq_true rfl) ?_
  intro p e s m below meth c A ls Q H locs hx hb hr hml hown hts hlocks hin hK hP hD hA hX hS hAe hQ hl
  have hown : s.vm.findClass RX8 = some m.cls := hown
  have hi5 : ∀ w ∈ wsX50, w ∈ wsX8_needs := fun w h => List.mem_cons_of_mem _ (List.mem_append_left _ (List.mem_append_right _ h))
  have hi8 : ∀ w ∈ wsX80, w ∈ wsX8_needs := fun w h => List.mem_cons_of_mem _ (List.mem_append_left _ (List.mem_append_left _ (List.mem_append_right _ h)))
  have hk0 := hts (.constant RX8 344 1000000) (by decide +kernel)
  have hk1 := hts (.fieldLink RX8 46 "MonthPush" "split" "LMonthPush$Split;") (by decide +kernel)
  have hk2 := hts (.fieldLink RX8 29 "MonthPush" "all" "LMonthPush$Sheets;") (by decide +kernel)
  have hk3 := hts (.fieldLink RX8 127 "MonthPush$Sheets" "n" "I") (by decide +kernel)
  have hl : lv_has ls 4 [(0, .ref (ad 0)), (1, .int p1), (2, .int p2)] := hl
  refine lv_iload_n hx hb dX8_needs_0 rfl (lv_at hl 1 rfl) ?_
  refine z_fini (w' := fun (u1 : Unit) => [(ad 0, .inr (8, xf0 ad)), (ad 23, .inr (5, xf23 ad)), (ad 38, .inr (6, xf38 ad))]) (va_runS (As := [.int p1]) (rest := []) ⟨hx, hb, hml, hown, hts⟩ (c_X8_isPush_53 l dC dI cB cI cJ cZ cP cQ H.size p1) (va_cwS 1 hts gX8_needs_X8_isPush rfl rfl rfl (by decide +kernel) ⟨Nat.le_of_ble_eq_true rfl, Nat.le_of_ble_eq_true rfl⟩) (z_pS hK hP hD zX_nil [] (by decide) rfl) rfl rfl hl.1 rfl (lv_room (Nat.le_of_ble_eq_true rfl)) dX8_needs_1 ⟨Nat.le_of_ble_eq_true rfl, Nat.le_of_ble_eq_true rfl⟩) hP hD hS hA [] [0, 1, 2] [0, 1, 2] rfl rfl (by decide) (by decide) (fun _ => rfl) (by decide) (fun r2 u1 H locs hp3 hP hD hS => ?_)
  have hP : va_P (dC, dI) vwCl [(ad 0, .inr (8, xf0 ad)), (ad 23, .inr (5, xf23 ad)), (ad 38, .inr (6, xf38 ad))] H := hP
  have hD : va_D A [(ad 0, .inr (8, xf0 ad)), (ad 23, .inr (5, xf23 ad)), (ad 38, .inr (6, xf38 ad))] := hD
  refine W.widen (k := 0) (n := 0) (by decide) (by decide) ?_
  rcases hp3 with ⟨rfl, f4⟩ | ⟨rfl, f5, f6⟩ | ⟨rfl, f7, f8⟩
  · refine lv_if_eq (tgt := 18) hx hb dX8_needs_4 (by decide) (fun _ => ?_) (fun c => absurd (by decide) c)
    refine lv_bipush (v := (-2)) hx hb dX8_needs_18 (by decide) ?_
    have hP9 := hP.sub (ws' := []) [] rfl
    have hD9 := hD.sub (ws' := []) [] (by decide) rfl
    exact z_iret () hx hb hr hlocks hK hP9 hD9 hS hAe hQ rfl (Or.inl (⟨rfl, f4⟩)) dX8_needs_20
  · refine lv_if_eq (tgt := 18) hx hb dX8_needs_4 (by decide) (fun _ => ?_) (fun c => absurd (by decide) c)
    refine lv_bipush (v := (-2)) hx hb dX8_needs_18 (by decide) ?_
    have hP9 := hP.sub (ws' := []) [] rfl
    have hD9 := hD.sub (ws' := []) [] (by decide) rfl
    exact z_iret () hx hb hr hlocks hK hP9 hD9 hS hAe hQ rfl (Or.inr (Or.inl ⟨rfl, f5, f6⟩)) dX8_needs_20
  · refine lv_if_eq (tgt := 18) hx hb dX8_needs_4 (by decide) (fun c => absurd c (by decide)) (fun _ => ?_)
    refine lv_iload_n hx hb dX8_needs_7 rfl (lv_at hl 2 rfl) ?_
    refine lv_iconst (v := 0) hx hb dX8_needs_8 (by decide) ?_
    refine lv_ldcw hx hb hown hk0 dX8_needs_9 ?_
    refine z_fini (w' := fun (u9 : Unit) => [(ad 0, .inr (8, xf0 ad)), (ad 23, .inr (5, xf23 ad)), (ad 38, .inr (6, xf38 ad))]) (va_runS (As := [.int p2, .int 0, .int 1000000]) (rest := []) ⟨hx, hb, hml, hown, hts⟩ (c_X8_within_105 l dC dI cB cI cJ cZ cP cQ H.size p2) (va_cwS 3 hts gX8_needs_X8_within rfl rfl rfl (by decide +kernel) ⟨Nat.le_of_ble_eq_true rfl, Nat.le_of_ble_eq_true rfl⟩) (z_pS hK hP hD zX_nil [] (by decide) rfl) rfl rfl hl.1 rfl (lv_room (Nat.le_of_ble_eq_true rfl)) dX8_needs_12 ⟨Nat.le_of_ble_eq_true rfl, Nat.le_of_ble_eq_true rfl⟩) hP hD hS hA [] [0, 1, 2] [0, 1, 2] rfl rfl (by decide) (by decide) (fun _ => rfl) (by decide) (fun r10 u9 H locs hp11 hP hD hS => ?_)
    have hP : va_P (dC, dI) vwCl [(ad 0, .inr (8, xf0 ad)), (ad 23, .inr (5, xf23 ad)), (ad 38, .inr (6, xf38 ad))] H := hP
    have hD : va_D A [(ad 0, .inr (8, xf0 ad)), (ad 23, .inr (5, xf23 ad)), (ad 38, .inr (6, xf38 ad))] := hD
    refine W.widen (k := 0) (n := 0) (by decide) (by decide) ?_
    rcases hp11 with ⟨rfl, f12⟩ | ⟨rfl, f13, f14⟩ | ⟨rfl, f15, f16⟩
    · refine lv_if_ne (tgt := 21) hx hb dX8_needs_15 (by decide) (fun c => absurd (by decide) c) (fun _ => ?_)
      refine lv_bipush (v := (-2)) hx hb dX8_needs_18 (by decide) ?_
      have hP9 := hP.sub (ws' := []) [] rfl
      have hD9 := hD.sub (ws' := []) [] (by decide) rfl
      exact z_iret () hx hb hr hlocks hK hP9 hD9 hS hAe hQ rfl (Or.inr (Or.inr (Or.inl ⟨rfl, f7, f8, f12⟩))) dX8_needs_20
    · refine lv_if_ne (tgt := 21) hx hb dX8_needs_15 (by decide) (fun c => absurd (by decide) c) (fun _ => ?_)
      refine lv_bipush (v := (-2)) hx hb dX8_needs_18 (by decide) ?_
      have hP9 := hP.sub (ws' := []) [] rfl
      have hD9 := hD.sub (ws' := []) [] (by decide) rfl
      exact z_iret () hx hb hr hlocks hK hP9 hD9 hS hAe hQ rfl (Or.inr (Or.inr (Or.inr (Or.inl ⟨rfl, f7, f8, f13, f14⟩)))) dX8_needs_20
    · refine lv_if_ne (tgt := 21) hx hb dX8_needs_15 (by decide) (fun _ => ?_) (fun c => absurd c (by decide))
      refine lv_aload_n hx hb dX8_needs_21 rfl (lv_at hl 0 rfl) ?_
      refine va_get (D := (dC, dI)) (ci := 8) (v := .ref (ad 38)) (C := RX8) (T := TX8) (N := 10) hx hb hts hi8 hown hK hP 0 rfl rfl 6 (by decide) hk1 (fun _ h9 => h9) rfl dX8_needs_22 ?_
      refine z_finv (w' := fun (u17 : Unit) => [(ad 0, .inr (8, xf0 ad)), (ad 23, .inr (5, xf23 ad)), (ad 38, .inr (6, xf38 ad))]) (va_runV (As := []) (rest := []) ⟨hx, hb, hml, hown, hts⟩ (c_X6_clear_47 l dC dI cB cI cJ cZ cP cQ ad H.size) (cwV 0 hts gX8_needs_X6_clear rfl rfl rfl (by decide +kernel) ⟨Nat.le_of_ble_eq_true rfl, Nat.le_of_ble_eq_true rfl⟩) (z_pV (ci := 6) hK hP hD zX_nil [2] (by decide) rfl rfl 2 rfl) rfl rfl hl.1 rfl (lv_room (Nat.le_of_ble_eq_true rfl)) dX8_needs_25 ⟨Nat.le_of_ble_eq_true rfl, Nat.le_of_ble_eq_true rfl⟩) hP hD hS hA [2] [0, 1] [0, 1, 2] rfl rfl (by decide) (by decide) (fun _ => rfl) (by decide) (fun u17 H locs hp19 hP hD hS => ?_)
      have hP : va_P (dC, dI) vwCl [(ad 0, .inr (8, xf0 ad)), (ad 23, .inr (5, xf23 ad)), (ad 38, .inr (6, xf38 ad))] H := hP
      have hD : va_D A [(ad 0, .inr (8, xf0 ad)), (ad 23, .inr (5, xf23 ad)), (ad 38, .inr (6, xf38 ad))] := hD
      refine W.widen (k := 0) (n := 0) (by decide) (by decide) ?_
      refine lv_iconst (v := 0) hx hb dX8_needs_28 (by decide) ?_
      refine lv_istore_n (lv' := [(3, .int 0), (0, .ref (ad 0)), (1, .int p1), (2, .int p2)]) hx hb dX8_needs_29 rfl hl (by decide) rfl (fun ls hl => ?_)
      refine lv_iload_n hx hb dX8_needs_30 rfl (lv_at hl 0 rfl) ?_
      refine lv_aload_n hx hb dX8_needs_31 rfl (lv_at hl 1 rfl) ?_
      refine va_get (D := (dC, dI)) (ci := 8) (v := .ref (ad 23)) (C := RX8) (T := TX8) (N := 10) hx hb hts hi8 hown hK hP 0 rfl rfl 3 (by decide) hk2 (fun _ h9 => h9) rfl dX8_needs_32 ?_
      refine va_get (D := (dC, dI)) (ci := 5) (v := .int 0) (C := RX5) (T := TX5) (N := 7) hx hb hts hi5 hown hK hP 1 rfl rfl 0 (by decide) hk3 (fun _ h9 => h9) rfl dX8_needs_35 ?_
      refine lv_icmp_ge (tgt := 89) hx hb dX8_needs_38 (by decide) (fun _ => ?_) (fun c => absurd (by decide) c)
      refine lv_iconst (v := (-1)) hx hb dX8_needs_89 (by decide) ?_
      have hP9 := hP.sub (ws' := []) [] rfl
      have hD9 := hD.sub (ws' := []) [] (by decide) rfl
      exact z_iret () hx hb hr hlocks hK hP9 hD9 hS hAe hQ rfl (Or.inr (Or.inr (Or.inr (Or.inr ⟨rfl, f7, f8, f15, f16⟩)))) dX8_needs_90
set_option maxHeartbeats 4000000 in
set_option maxRecDepth 100000 in
theorem c_X8_within_107 (l : Launch) (dC : Nat → ClassId) (dI : Nat → Nat → Nat) (cB cI cJ cZ cP cQ : ClassId) (sz : Nat) (p0 : Int32) : Met l yX8_within wsX8_within ({ frames := 0, cells := 0, slots := 0, locals := 0 } : Room) (zPc [.int p0, .int 1, .int 20] (dC, dI) (zT cB cI cJ cZ cP cQ) [] sz [] []) (va_Qi (fun r _ => (fun r => (r = 0 ∧ p0.toInt < 1) ∨ (r = 0 ∧ 1 ≤ p0.toInt ∧ 20 < p0.toInt) ∨ (r = 1 ∧ 1 ≤ p0.toInt ∧ p0.toInt ≤ 20)) r) (zB (dC, dI) (zT cB cI cJ cZ cP cQ) (fun _ : Unit => []) [] sz) (va_A [] sz)) 0 0 (va_A [] sz) := by
  refine z_enter (cc := cX8_within) (maxL := 3) (ret := (some .boolean)) (by decide) rfl (Nat.le_of_ble_eq_true rfl) ?_
  intro p e s m below meth c A ls Q H locs hx hb hr hml hown hts hlocks hin hK hP hD hA hX hS hAe hQ hl
  have hown : s.vm.findClass RX8 = some m.cls := hown
  have hl : lv_has ls 3 [(0, .int p0), (1, .int 1), (2, .int 20)] := hl
  refine lv_iload_n hx hb dX8_within_0 rfl (lv_at hl 0 rfl) ?_
  refine lv_iload_n hx hb dX8_within_1 rfl (lv_at hl 1 rfl) ?_
  refine lv_icmp_lt (tgt := 14) hx hb dX8_within_2 (by decide) (fun c_1 => ?_) (fun c_1 => ?_)
  · have f2 : p0.toInt < 1 := z_lt rfl (by decide) c_1
    refine lv_iconst (v := 0) hx hb dX8_within_14 (by decide) ?_
    exact z_zret () hx hb hr hlocks hK hP hD hS hAe hQ rfl (Or.inl (⟨rfl, f2⟩)) (by decide) dX8_within_15
  · have f2 : 1 ≤ p0.toInt := z_nlt rfl (by decide) c_1
    refine lv_iload_n hx hb dX8_within_5 rfl (lv_at hl 0 rfl) ?_
    refine lv_iload_n hx hb dX8_within_6 rfl (lv_at hl 2 rfl) ?_
    refine lv_icmp_gt (tgt := 14) hx hb dX8_within_7 (by decide) (fun c_3 => ?_) (fun c_3 => ?_)
    · have f4 : 20 < p0.toInt := z_lt (by decide) rfl c_3
      refine lv_iconst (v := 0) hx hb dX8_within_14 (by decide) ?_
      exact z_zret () hx hb hr hlocks hK hP hD hS hAe hQ rfl (Or.inr (Or.inl ⟨rfl, f2, f4⟩)) (by decide) dX8_within_15
    · have f4 : p0.toInt ≤ 20 := z_nlt (by decide) rfl c_3
      refine lv_iconst (v := 1) hx hb dX8_within_10 (by decide) ?_
      refine lv_goto (tgt := 15) hx hb dX8_within_11 (by decide) ?_
      exact z_zret () hx hb hr hlocks hK hP hD hS hAe hQ rfl (Or.inr (Or.inr ⟨rfl, f2, f4⟩)) (by decide) dX8_within_15
set_option maxHeartbeats 4000000 in
set_option maxRecDepth 100000 in
theorem c_X8_worlds_107 (l : Launch) (dC : Nat → ClassId) (dI : Nat → Nat → Nat) (cB cI cJ cZ cP cQ : ClassId) (ad : Nat → Nat) (sz : Nat) (p1 : Int32) (p2 : Int32) (p3 : Int32) (p4 : Int32) (p5 : Int32) : Met l yX8_worlds wsX8_worlds ({ frames := 2, cells := 0, slots := 0, locals := 42 } : Room) (zPc [.ref (ad 0), .int p1, .int p2, .int p3, .int p4, .int p5] (dC, dI) (zT cB cI cJ cZ cP cQ) [(ad 0, .inr (8, xf0 ad)), (ad 3, .inr (3, xf3 ad))] sz [] []) (va_Qi (fun r _ => (fun r => (r = (-2) ∧ p1.toInt < 1) ∨ (r = (-2) ∧ 1 ≤ p1.toInt ∧ 4094 < p1.toInt) ∨ (r = (-2) ∧ 1 ≤ p1.toInt ∧ p1.toInt ≤ 4094 ∧ p2.toInt < 0) ∨ (r = (-2) ∧ 1 ≤ p1.toInt ∧ p1.toInt ≤ 4094 ∧ 0 ≤ p2.toInt ∧ 2000000000 < p2.toInt) ∨ (r = (-2) ∧ 1 ≤ p1.toInt ∧ p1.toInt ≤ 4094 ∧ 0 ≤ p2.toInt ∧ p2.toInt ≤ 2000000000 ∧ p3.toInt < 1) ∨ (r = (-2) ∧ 1 ≤ p1.toInt ∧ p1.toInt ≤ 4094 ∧ 0 ≤ p2.toInt ∧ p2.toInt ≤ 2000000000 ∧ 1 ≤ p3.toInt ∧ 20 < p3.toInt) ∨ (r = (-2) ∧ 1 ≤ p1.toInt ∧ p1.toInt ≤ 4094 ∧ 0 ≤ p2.toInt ∧ p2.toInt ≤ 2000000000 ∧ 1 ≤ p3.toInt ∧ p3.toInt ≤ 20 ∧ p4.toInt < 1) ∨ (r = (-2) ∧ 1 ≤ p1.toInt ∧ p1.toInt ≤ 4094 ∧ 0 ≤ p2.toInt ∧ p2.toInt ≤ 2000000000 ∧ 1 ≤ p3.toInt ∧ p3.toInt ≤ 20 ∧ 1 ≤ p4.toInt ∧ 10 < p4.toInt) ∨ (r = (-2) ∧ 1 ≤ p1.toInt ∧ p1.toInt ≤ 4094 ∧ 0 ≤ p2.toInt ∧ p2.toInt ≤ 2000000000 ∧ 1 ≤ p3.toInt ∧ p3.toInt ≤ 20 ∧ 1 ≤ p4.toInt ∧ p4.toInt ≤ 10 ∧ p5.toInt < 0) ∨ (r = (-2) ∧ 1 ≤ p1.toInt ∧ p1.toInt ≤ 4094 ∧ 0 ≤ p2.toInt ∧ p2.toInt ≤ 2000000000 ∧ 1 ≤ p3.toInt ∧ p3.toInt ≤ 20 ∧ 1 ≤ p4.toInt ∧ p4.toInt ≤ 10 ∧ 0 ≤ p5.toInt ∧ 2 < p5.toInt) ∨ (r = (-6) ∧ 1 ≤ p1.toInt ∧ p1.toInt ≤ 4094 ∧ 0 ≤ p2.toInt ∧ p2.toInt ≤ 2000000000 ∧ 1 ≤ p3.toInt ∧ p3.toInt ≤ 20 ∧ 1 ≤ p4.toInt ∧ p4.toInt ≤ 10 ∧ 0 ≤ p5.toInt ∧ p5.toInt ≤ 2)) r) (zB (dC, dI) (zT cB cI cJ cZ cP cQ) (fun _ : Unit => []) [(ad 0, .inr (8, xf0 ad)), (ad 3, .inr (3, xf3 ad))] sz) (va_A [(ad 0, .inr (8, xf0 ad)), (ad 3, .inr (3, xf3 ad))] sz)) 0 0 (va_A [(ad 0, .inr (8, xf0 ad)), (ad 3, .inr (3, xf3 ad))] sz) := by
  refine z_enter (cc := cX8_worlds) (maxL := 8) (ret := (some .int)) (by decide) rfl (Nat.le_of_ble_eq_true rfl) ?_
  intro p e s m below meth c A ls Q H locs hx hb hr hml hown hts hlocks hin hK hP hD hA hX hS hAe hQ hl
  have hown : s.vm.findClass RX8 = some m.cls := hown
  have hi8 : ∀ w ∈ wsX80, w ∈ wsX8_worlds := fun w h => List.mem_cons_of_mem _ (List.mem_append_left _ (List.mem_append_left _ (List.mem_append_left _ (List.mem_append_left _ (List.mem_append_right _ h)))))
  have hk0 := hts (.fieldLink RX8 19 "MonthPush" "now" "LMonthPush$Land;") (by decide +kernel)
  have hl : lv_has ls 8 [(0, .ref (ad 0)), (1, .int p1), (2, .int p2), (3, .int p3), (4, .int p4), (5, .int p5)] := hl
  refine lv_iload_n hx hb dX8_worlds_0 rfl (lv_at hl 1 rfl) ?_
  refine z_fini (w' := fun (u1 : Unit) => [(ad 0, .inr (8, xf0 ad)), (ad 3, .inr (3, xf3 ad))]) (va_runS (As := [.int p1]) (rest := []) ⟨hx, hb, hml, hown, hts⟩ (c_X8_isPush_53 l dC dI cB cI cJ cZ cP cQ H.size p1) (va_cwS 1 hts gX8_worlds_X8_isPush rfl rfl rfl (by decide +kernel) ⟨Nat.le_of_ble_eq_true rfl, Nat.le_of_ble_eq_true rfl⟩) (z_pS hK hP hD zX_nil [] (by decide) rfl) rfl rfl hl.1 rfl (lv_room (Nat.le_of_ble_eq_true rfl)) dX8_worlds_1 ⟨Nat.le_of_ble_eq_true rfl, Nat.le_of_ble_eq_true rfl⟩) hP hD hS hA [] [0, 1] [0, 1] rfl rfl (by decide) (by decide) (fun _ => rfl) (by decide) (fun r2 u1 H locs hp3 hP hD hS => ?_)
  have hP : va_P (dC, dI) vwCl [(ad 0, .inr (8, xf0 ad)), (ad 3, .inr (3, xf3 ad))] H := hP
  have hD : va_D A [(ad 0, .inr (8, xf0 ad)), (ad 3, .inr (3, xf3 ad))] := hD
  refine W.widen (k := 0) (n := 0) (by decide) (by decide) ?_
  rcases hp3 with ⟨rfl, f4⟩ | ⟨rfl, f5, f6⟩ | ⟨rfl, f7, f8⟩
  · refine lv_if_eq (tgt := 24) hx hb dX8_worlds_4 (by decide) (fun _ => ?_) (fun c => absurd (by decide) c)
    refine lv_bipush (v := (-2)) hx hb dX8_worlds_24 (by decide) ?_
    have hP9 := hP.sub (ws' := []) [] rfl
    have hD9 := hD.sub (ws' := []) [] (by decide) rfl
    exact z_iret () hx hb hr hlocks hK hP9 hD9 hS hAe hQ rfl (Or.inl (⟨rfl, f4⟩)) dX8_worlds_26
  · refine lv_if_eq (tgt := 24) hx hb dX8_worlds_4 (by decide) (fun _ => ?_) (fun c => absurd (by decide) c)
    refine lv_bipush (v := (-2)) hx hb dX8_worlds_24 (by decide) ?_
    have hP9 := hP.sub (ws' := []) [] rfl
    have hD9 := hD.sub (ws' := []) [] (by decide) rfl
    exact z_iret () hx hb hr hlocks hK hP9 hD9 hS hAe hQ rfl (Or.inr (Or.inl ⟨rfl, f5, f6⟩)) dX8_worlds_26
  · refine lv_if_eq (tgt := 24) hx hb dX8_worlds_4 (by decide) (fun c => absurd c (by decide)) (fun _ => ?_)
    refine lv_iload_n hx hb dX8_worlds_7 rfl (lv_at hl 2 rfl) ?_
    refine z_fini (w' := fun (u9 : Unit) => [(ad 0, .inr (8, xf0 ad)), (ad 3, .inr (3, xf3 ad))]) (va_runS (As := [.int p2]) (rest := []) ⟨hx, hb, hml, hown, hts⟩ (c_X8_isSeed_32 l dC dI cB cI cJ cZ cP cQ H.size p2) (va_cwS 1 hts gX8_worlds_X8_isSeed rfl rfl rfl (by decide +kernel) ⟨Nat.le_of_ble_eq_true rfl, Nat.le_of_ble_eq_true rfl⟩) (z_pS hK hP hD zX_nil [] (by decide) rfl) rfl rfl hl.1 rfl (lv_room (Nat.le_of_ble_eq_true rfl)) dX8_worlds_8 ⟨Nat.le_of_ble_eq_true rfl, Nat.le_of_ble_eq_true rfl⟩) hP hD hS hA [] [0, 1] [0, 1] rfl rfl (by decide) (by decide) (fun _ => rfl) (by decide) (fun r10 u9 H locs hp11 hP hD hS => ?_)
    have hP : va_P (dC, dI) vwCl [(ad 0, .inr (8, xf0 ad)), (ad 3, .inr (3, xf3 ad))] H := hP
    have hD : va_D A [(ad 0, .inr (8, xf0 ad)), (ad 3, .inr (3, xf3 ad))] := hD
    refine W.widen (k := 0) (n := 0) (by decide) (by decide) ?_
    rcases hp11 with ⟨rfl, f12⟩ | ⟨rfl, f13, f14⟩ | ⟨rfl, f15, f16⟩
    · refine lv_if_eq (tgt := 24) hx hb dX8_worlds_11 (by decide) (fun _ => ?_) (fun c => absurd (by decide) c)
      refine lv_bipush (v := (-2)) hx hb dX8_worlds_24 (by decide) ?_
      have hP9 := hP.sub (ws' := []) [] rfl
      have hD9 := hD.sub (ws' := []) [] (by decide) rfl
      exact z_iret () hx hb hr hlocks hK hP9 hD9 hS hAe hQ rfl (Or.inr (Or.inr (Or.inl ⟨rfl, f7, f8, f12⟩))) dX8_worlds_26
    · refine lv_if_eq (tgt := 24) hx hb dX8_worlds_11 (by decide) (fun _ => ?_) (fun c => absurd (by decide) c)
      refine lv_bipush (v := (-2)) hx hb dX8_worlds_24 (by decide) ?_
      have hP9 := hP.sub (ws' := []) [] rfl
      have hD9 := hD.sub (ws' := []) [] (by decide) rfl
      exact z_iret () hx hb hr hlocks hK hP9 hD9 hS hAe hQ rfl (Or.inr (Or.inr (Or.inr (Or.inl ⟨rfl, f7, f8, f13, f14⟩)))) dX8_worlds_26
    · refine lv_if_eq (tgt := 24) hx hb dX8_worlds_11 (by decide) (fun c => absurd c (by decide)) (fun _ => ?_)
      refine lv_iload_n hx hb dX8_worlds_14 rfl (lv_at hl 3 rfl) ?_
      refine lv_iconst (v := 1) hx hb dX8_worlds_15 (by decide) ?_
      refine lv_bipush (v := 20) hx hb dX8_worlds_16 (by decide) ?_
      refine z_fini (w' := fun (u17 : Unit) => [(ad 0, .inr (8, xf0 ad)), (ad 3, .inr (3, xf3 ad))]) (va_runS (As := [.int p3, .int 1, .int 20]) (rest := []) ⟨hx, hb, hml, hown, hts⟩ (c_X8_within_107 l dC dI cB cI cJ cZ cP cQ H.size p3) (va_cwS 3 hts gX8_worlds_X8_within rfl rfl rfl (by decide +kernel) ⟨Nat.le_of_ble_eq_true rfl, Nat.le_of_ble_eq_true rfl⟩) (z_pS hK hP hD zX_nil [] (by decide) rfl) rfl rfl hl.1 rfl (lv_room (Nat.le_of_ble_eq_true rfl)) dX8_worlds_18 ⟨Nat.le_of_ble_eq_true rfl, Nat.le_of_ble_eq_true rfl⟩) hP hD hS hA [] [0, 1] [0, 1] rfl rfl (by decide) (by decide) (fun _ => rfl) (by decide) (fun r18 u17 H locs hp19 hP hD hS => ?_)
      have hP : va_P (dC, dI) vwCl [(ad 0, .inr (8, xf0 ad)), (ad 3, .inr (3, xf3 ad))] H := hP
      have hD : va_D A [(ad 0, .inr (8, xf0 ad)), (ad 3, .inr (3, xf3 ad))] := hD
      refine W.widen (k := 0) (n := 0) (by decide) (by decide) ?_
      rcases hp19 with ⟨rfl, f20⟩ | ⟨rfl, f21, f22⟩ | ⟨rfl, f23, f24⟩
      · refine lv_if_ne (tgt := 27) hx hb dX8_worlds_21 (by decide) (fun c => absurd (by decide) c) (fun _ => ?_)
        refine lv_bipush (v := (-2)) hx hb dX8_worlds_24 (by decide) ?_
        have hP9 := hP.sub (ws' := []) [] rfl
        have hD9 := hD.sub (ws' := []) [] (by decide) rfl
        exact z_iret () hx hb hr hlocks hK hP9 hD9 hS hAe hQ rfl (Or.inr (Or.inr (Or.inr (Or.inr (Or.inl ⟨rfl, f7, f8, f15, f16, f20⟩))))) dX8_worlds_26
      · refine lv_if_ne (tgt := 27) hx hb dX8_worlds_21 (by decide) (fun c => absurd (by decide) c) (fun _ => ?_)
        refine lv_bipush (v := (-2)) hx hb dX8_worlds_24 (by decide) ?_
        have hP9 := hP.sub (ws' := []) [] rfl
        have hD9 := hD.sub (ws' := []) [] (by decide) rfl
        exact z_iret () hx hb hr hlocks hK hP9 hD9 hS hAe hQ rfl (Or.inr (Or.inr (Or.inr (Or.inr (Or.inr (Or.inl ⟨rfl, f7, f8, f15, f16, f21, f22⟩)))))) dX8_worlds_26
      · refine lv_if_ne (tgt := 27) hx hb dX8_worlds_21 (by decide) (fun _ => ?_) (fun c => absurd c (by decide))
        refine lv_iload hx hb dX8_worlds_27 (lv_at hl 4 rfl) ?_
        refine lv_iconst (v := 1) hx hb dX8_worlds_29 (by decide) ?_
        refine lv_bipush (v := 10) hx hb dX8_worlds_30 (by decide) ?_
        refine z_fini (w' := fun (u25 : Unit) => [(ad 0, .inr (8, xf0 ad)), (ad 3, .inr (3, xf3 ad))]) (va_runS (As := [.int p4, .int 1, .int 10]) (rest := []) ⟨hx, hb, hml, hown, hts⟩ (c_X8_within_71 l dC dI cB cI cJ cZ cP cQ H.size p4) (va_cwS 3 hts gX8_worlds_X8_within rfl rfl rfl (by decide +kernel) ⟨Nat.le_of_ble_eq_true rfl, Nat.le_of_ble_eq_true rfl⟩) (z_pS hK hP hD zX_nil [] (by decide) rfl) rfl rfl hl.1 rfl (lv_room (Nat.le_of_ble_eq_true rfl)) dX8_worlds_32 ⟨Nat.le_of_ble_eq_true rfl, Nat.le_of_ble_eq_true rfl⟩) hP hD hS hA [] [0, 1] [0, 1] rfl rfl (by decide) (by decide) (fun _ => rfl) (by decide) (fun r26 u25 H locs hp27 hP hD hS => ?_)
        have hP : va_P (dC, dI) vwCl [(ad 0, .inr (8, xf0 ad)), (ad 3, .inr (3, xf3 ad))] H := hP
        have hD : va_D A [(ad 0, .inr (8, xf0 ad)), (ad 3, .inr (3, xf3 ad))] := hD
        refine W.widen (k := 0) (n := 0) (by decide) (by decide) ?_
        rcases hp27 with ⟨rfl, f28⟩ | ⟨rfl, f29, f30⟩ | ⟨rfl, f31, f32⟩
        · refine lv_if_eq (tgt := 48) hx hb dX8_worlds_35 (by decide) (fun _ => ?_) (fun c => absurd (by decide) c)
          refine lv_bipush (v := (-2)) hx hb dX8_worlds_48 (by decide) ?_
          have hP9 := hP.sub (ws' := []) [] rfl
          have hD9 := hD.sub (ws' := []) [] (by decide) rfl
          exact z_iret () hx hb hr hlocks hK hP9 hD9 hS hAe hQ rfl (Or.inr (Or.inr (Or.inr (Or.inr (Or.inr (Or.inr (Or.inl ⟨rfl, f7, f8, f15, f16, f23, f24, f28⟩))))))) dX8_worlds_50
        · refine lv_if_eq (tgt := 48) hx hb dX8_worlds_35 (by decide) (fun _ => ?_) (fun c => absurd (by decide) c)
          refine lv_bipush (v := (-2)) hx hb dX8_worlds_48 (by decide) ?_
          have hP9 := hP.sub (ws' := []) [] rfl
          have hD9 := hD.sub (ws' := []) [] (by decide) rfl
          exact z_iret () hx hb hr hlocks hK hP9 hD9 hS hAe hQ rfl (Or.inr (Or.inr (Or.inr (Or.inr (Or.inr (Or.inr (Or.inr (Or.inl ⟨rfl, f7, f8, f15, f16, f23, f24, f29, f30⟩)))))))) dX8_worlds_50
        · refine lv_if_eq (tgt := 48) hx hb dX8_worlds_35 (by decide) (fun c => absurd c (by decide)) (fun _ => ?_)
          refine lv_iload hx hb dX8_worlds_38 (lv_at hl 5 rfl) ?_
          refine lv_iconst (v := 0) hx hb dX8_worlds_40 (by decide) ?_
          refine lv_iconst (v := 2) hx hb dX8_worlds_41 (by decide) ?_
          refine z_fini (w' := fun (u33 : Unit) => [(ad 0, .inr (8, xf0 ad)), (ad 3, .inr (3, xf3 ad))]) (va_runS (As := [.int p5, .int 0, .int 2]) (rest := []) ⟨hx, hb, hml, hown, hts⟩ (c_X8_within_78 l dC dI cB cI cJ cZ cP cQ H.size p5) (va_cwS 3 hts gX8_worlds_X8_within rfl rfl rfl (by decide +kernel) ⟨Nat.le_of_ble_eq_true rfl, Nat.le_of_ble_eq_true rfl⟩) (z_pS hK hP hD zX_nil [] (by decide) rfl) rfl rfl hl.1 rfl (lv_room (Nat.le_of_ble_eq_true rfl)) dX8_worlds_42 ⟨Nat.le_of_ble_eq_true rfl, Nat.le_of_ble_eq_true rfl⟩) hP hD hS hA [] [0, 1] [0, 1] rfl rfl (by decide) (by decide) (fun _ => rfl) (by decide) (fun r34 u33 H locs hp35 hP hD hS => ?_)
          have hP : va_P (dC, dI) vwCl [(ad 0, .inr (8, xf0 ad)), (ad 3, .inr (3, xf3 ad))] H := hP
          have hD : va_D A [(ad 0, .inr (8, xf0 ad)), (ad 3, .inr (3, xf3 ad))] := hD
          refine W.widen (k := 0) (n := 0) (by decide) (by decide) ?_
          rcases hp35 with ⟨rfl, f36⟩ | ⟨rfl, f37, f38⟩ | ⟨rfl, f39, f40⟩
          · refine lv_if_ne (tgt := 51) hx hb dX8_worlds_45 (by decide) (fun c => absurd (by decide) c) (fun _ => ?_)
            refine lv_bipush (v := (-2)) hx hb dX8_worlds_48 (by decide) ?_
            have hP9 := hP.sub (ws' := []) [] rfl
            have hD9 := hD.sub (ws' := []) [] (by decide) rfl
            exact z_iret () hx hb hr hlocks hK hP9 hD9 hS hAe hQ rfl (Or.inr (Or.inr (Or.inr (Or.inr (Or.inr (Or.inr (Or.inr (Or.inr (Or.inl ⟨rfl, f7, f8, f15, f16, f23, f24, f31, f32, f36⟩))))))))) dX8_worlds_50
          · refine lv_if_ne (tgt := 51) hx hb dX8_worlds_45 (by decide) (fun c => absurd (by decide) c) (fun _ => ?_)
            refine lv_bipush (v := (-2)) hx hb dX8_worlds_48 (by decide) ?_
            have hP9 := hP.sub (ws' := []) [] rfl
            have hD9 := hD.sub (ws' := []) [] (by decide) rfl
            exact z_iret () hx hb hr hlocks hK hP9 hD9 hS hAe hQ rfl (Or.inr (Or.inr (Or.inr (Or.inr (Or.inr (Or.inr (Or.inr (Or.inr (Or.inr (Or.inl ⟨rfl, f7, f8, f15, f16, f23, f24, f31, f32, f37, f38⟩)))))))))) dX8_worlds_50
          · refine lv_if_ne (tgt := 51) hx hb dX8_worlds_45 (by decide) (fun _ => ?_) (fun c => absurd c (by decide))
            refine lv_aload_n hx hb dX8_worlds_51 rfl (lv_at hl 0 rfl) ?_
            refine va_get (D := (dC, dI)) (ci := 8) (v := .ref (ad 3)) (C := RX8) (T := TX8) (N := 10) hx hb hts hi8 hown hK hP 0 rfl rfl 1 (by decide) hk0 (fun _ h9 => h9) rfl dX8_worlds_52 ?_
            refine z_fini (w' := fun (u41 : Unit) => [(ad 0, .inr (8, xf0 ad)), (ad 3, .inr (3, xf3 ad))]) (va_runV (As := []) (rest := []) ⟨hx, hb, hml, hown, hts⟩ (c_X3_canBeDrawnFrom_34 l dC dI cB cI cJ cZ cP cQ ad H.size) (cwV 0 hts gX8_worlds_X3_canBeDrawnFrom rfl rfl rfl (by decide +kernel) ⟨Nat.le_of_ble_eq_true rfl, Nat.le_of_ble_eq_true rfl⟩) (z_pV (ci := 3) hK hP hD zX_nil [1] (by decide) rfl rfl 1 rfl) rfl rfl hl.1 rfl (lv_room (Nat.le_of_ble_eq_true rfl)) dX8_worlds_55 ⟨Nat.le_of_ble_eq_true rfl, Nat.le_of_ble_eq_true rfl⟩) hP hD hS hA [1] [0] [0, 1] rfl rfl (by decide) (by decide) (fun _ => rfl) (by decide) (fun r42 u41 H locs hp43 hP hD hS => ?_)
            have hP : va_P (dC, dI) vwCl [(ad 0, .inr (8, xf0 ad)), (ad 3, .inr (3, xf3 ad))] H := hP
            have hD : va_D A [(ad 0, .inr (8, xf0 ad)), (ad 3, .inr (3, xf3 ad))] := hD
            refine W.widen (k := 0) (n := 0) (by decide) (by decide) ?_
            obtain rfl : r42 = 0 := hp43
            refine lv_if_eq (tgt := 71) hx hb dX8_worlds_58 (by decide) (fun _ => ?_) (fun c => absurd (by decide) c)
            refine lv_bipush (v := (-6)) hx hb dX8_worlds_71 (by decide) ?_
            have hP9 := hP.sub (ws' := []) [] rfl
            have hD9 := hD.sub (ws' := []) [] (by decide) rfl
            exact z_iret () hx hb hr hlocks hK hP9 hD9 hS hAe hQ rfl (Or.inr (Or.inr (Or.inr (Or.inr (Or.inr (Or.inr (Or.inr (Or.inr (Or.inr (Or.inr ⟨rfl, f7, f8, f15, f16, f23, f24, f31, f32, f39, f40⟩)))))))))) dX8_worlds_73
set_option maxHeartbeats 4000000 in
set_option maxRecDepth 100000 in
theorem c_X8_only_108 (l : Launch) (dC : Nat → ClassId) (dI : Nat → Nat → Nat) (cB cI cJ cZ cP cQ : ClassId) (ad : Nat → Nat) (sz : Nat) (p1 : Int32) : Met l yX8_only wsX8_only ({ frames := 1, cells := 0, slots := 0, locals := 21 } : Room) (zPc [.ref (ad 0), .int p1] (dC, dI) (zT cB cI cJ cZ cP cQ) [(ad 0, .inr (8, xf0 ad)), (ad 3, .inr (3, xf3 ad))] sz [] []) (va_Qi (fun r _ => (fun r => (r = (-2) ∧ p1.toInt < 0) ∨ (r = (-2) ∧ 0 ≤ p1.toInt)) r) (zB (dC, dI) (zT cB cI cJ cZ cP cQ) (fun _ : Unit => []) [(ad 0, .inr (8, xf0 ad)), (ad 3, .inr (3, xf3 ad))] sz) (va_A [(ad 0, .inr (8, xf0 ad)), (ad 3, .inr (3, xf3 ad))] sz)) 0 0 (va_A [(ad 0, .inr (8, xf0 ad)), (ad 3, .inr (3, xf3 ad))] sz) := by
  refine z_enter (cc := cX8_only) (maxL := 2) (ret := (some .int)) (by decide) rfl (Nat.le_of_ble_eq_true rfl) ?_
  intro p e s m below meth c A ls Q H locs hx hb hr hml hown hts hlocks hin hK hP hD hA hX hS hAe hQ hl
  have hown : s.vm.findClass RX8 = some m.cls := hown
  have hi8 : ∀ w ∈ wsX80, w ∈ wsX8_only := fun w h => List.mem_cons_of_mem _ (List.mem_append_left _ (List.mem_append_left _ (List.mem_append_right _ h)))
  have hk0 := hts (.fieldLink RX8 19 "MonthPush" "now" "LMonthPush$Land;") (by decide +kernel)
  have hl : lv_has ls 2 [(0, .ref (ad 0)), (1, .int p1)] := hl
  refine lv_aload_n hx hb dX8_only_0 rfl (lv_at hl 0 rfl) ?_
  refine va_get (D := (dC, dI)) (ci := 8) (v := .ref (ad 3)) (C := RX8) (T := TX8) (N := 10) hx hb hts hi8 hown hK hP 0 rfl rfl 1 (by decide) hk0 (fun _ h9 => h9) rfl dX8_only_1 ?_
  refine lv_iload_n hx hb dX8_only_4 rfl (lv_at hl 1 rfl) ?_
  refine z_fini (w' := fun (u1 : Unit) => [(ad 0, .inr (8, xf0 ad)), (ad 3, .inr (3, xf3 ad))]) (va_runV (As := [.int p1]) (rest := []) ⟨hx, hb, hml, hown, hts⟩ (c_X3_hasState_23 l dC dI cB cI cJ cZ cP cQ ad H.size p1) (cwV 1 hts gX8_only_X3_hasState rfl rfl rfl (by decide +kernel) ⟨Nat.le_of_ble_eq_true rfl, Nat.le_of_ble_eq_true rfl⟩) (z_pV (ci := 3) hK hP hD zX_nil [1] (by decide) rfl rfl 1 rfl) rfl rfl hl.1 rfl (lv_room (Nat.le_of_ble_eq_true rfl)) dX8_only_5 ⟨Nat.le_of_ble_eq_true rfl, Nat.le_of_ble_eq_true rfl⟩) hP hD hS hA [1] [0] [0, 1] rfl rfl (by decide) (by decide) (fun _ => rfl) (by decide) (fun r2 u1 H locs hp3 hP hD hS => ?_)
  have hP : va_P (dC, dI) vwCl [(ad 0, .inr (8, xf0 ad)), (ad 3, .inr (3, xf3 ad))] H := hP
  have hD : va_D A [(ad 0, .inr (8, xf0 ad)), (ad 3, .inr (3, xf3 ad))] := hD
  refine W.widen (k := 0) (n := 0) (by decide) (by decide) ?_
  rcases hp3 with ⟨rfl, f4⟩ | ⟨rfl, f5⟩
  · refine lv_if_ne (tgt := 14) hx hb dX8_only_8 (by decide) (fun c => absurd (by decide) c) (fun _ => ?_)
    refine lv_bipush (v := (-2)) hx hb dX8_only_11 (by decide) ?_
    have hP9 := hP.sub (ws' := []) [] rfl
    have hD9 := hD.sub (ws' := []) [] (by decide) rfl
    exact z_iret () hx hb hr hlocks hK hP9 hD9 hS hAe hQ rfl (Or.inl (⟨rfl, f4⟩)) dX8_only_13
  · refine lv_if_ne (tgt := 14) hx hb dX8_only_8 (by decide) (fun c => absurd (by decide) c) (fun _ => ?_)
    refine lv_bipush (v := (-2)) hx hb dX8_only_11 (by decide) ?_
    have hP9 := hP.sub (ws' := []) [] rfl
    have hD9 := hD.sub (ws' := []) [] (by decide) rfl
    exact z_iret () hx hb hr hlocks hK hP9 hD9 hS hAe hQ rfl (Or.inr ⟨rfl, f5⟩) dX8_only_13
set_option maxHeartbeats 4000000 in
set_option maxRecDepth 100000 in
theorem c_X8_isSlot_110 (l : Launch) (dC : Nat → ClassId) (dI : Nat → Nat → Nat) (cB cI cJ cZ cP cQ : ClassId) (sz : Nat) (p0 : Int32) : Met l yX8_isSlot wsX8_isSlot ({ frames := 1, cells := 0, slots := 0, locals := 22 } : Room) (zPc [.int p0] (dC, dI) (zT cB cI cJ cZ cP cQ) [] sz [] []) (va_Qi (fun r _ => (fun r => (r = 0 ∧ p0.toInt < 0) ∨ (r = 0 ∧ 0 ≤ p0.toInt ∧ 3 < p0.toInt) ∨ (r = 1 ∧ 0 ≤ p0.toInt ∧ p0.toInt ≤ 3)) r) (zB (dC, dI) (zT cB cI cJ cZ cP cQ) (fun _ : Unit => []) [] sz) (va_A [] sz)) 0 0 (va_A [] sz) := by
  refine z_enter (cc := cX8_isSlot) (maxL := 1) (ret := (some .boolean)) (by decide) rfl (Nat.le_of_ble_eq_true rfl) ?_
  intro p e s m below meth c A ls Q H locs hx hb hr hml hown hts hlocks hin hK hP hD hA hX hS hAe hQ hl
  have hown : s.vm.findClass RX8 = some m.cls := hown
  have hl : lv_has ls 1 [(0, .int p0)] := hl
  refine lv_iload_n hx hb dX8_isSlot_0 rfl (lv_at hl 0 rfl) ?_
  refine lv_iconst (v := 0) hx hb dX8_isSlot_1 (by decide) ?_
  refine lv_iconst (v := 3) hx hb dX8_isSlot_2 (by decide) ?_
  refine z_fini (w' := fun (u1 : Unit) => []) (va_runS (As := [.int p0, .int 0, .int 3]) (rest := []) ⟨hx, hb, hml, hown, hts⟩ (c_X8_within_44 l dC dI cB cI cJ cZ cP cQ H.size p0) (va_cwS 3 hts gX8_isSlot_X8_within rfl rfl rfl (by decide +kernel) ⟨Nat.le_of_ble_eq_true rfl, Nat.le_of_ble_eq_true rfl⟩) (z_pS hK hP hD zX_nil [] (by decide) rfl) rfl rfl hl.1 rfl (lv_room (Nat.le_of_ble_eq_true rfl)) dX8_isSlot_3 ⟨Nat.le_of_ble_eq_true rfl, Nat.le_of_ble_eq_true rfl⟩) hP hD hS hA [] [] [] rfl rfl (by decide) (by decide) (fun _ => rfl) (by decide) (fun r2 u1 H locs hp3 hP hD hS => ?_)
  have hP : va_P (dC, dI) vwCl [] H := hP
  have hD : va_D A [] := hD
  refine W.widen (k := 0) (n := 0) (by decide) (by decide) ?_
  rcases hp3 with ⟨rfl, f4⟩ | ⟨rfl, f5, f6⟩ | ⟨rfl, f7, f8⟩
  · exact z_zret () hx hb hr hlocks hK hP hD hS hAe hQ rfl (Or.inl (⟨rfl, f4⟩)) (by decide) dX8_isSlot_6
  · exact z_zret () hx hb hr hlocks hK hP hD hS hAe hQ rfl (Or.inr (Or.inl ⟨rfl, f5, f6⟩)) (by decide) dX8_isSlot_6
  · exact z_zret () hx hb hr hlocks hK hP hD hS hAe hQ rfl (Or.inr (Or.inr ⟨rfl, f7, f8⟩)) (by decide) dX8_isSlot_6
set_option maxHeartbeats 4000000 in
set_option maxRecDepth 100000 in
theorem c_X4_stands_111 (l : Launch) (dC : Nat → ClassId) (dI : Nat → Nat → Nat) (cB cI cJ cZ cP cQ : ClassId) (ad : Nat → Nat) (sz : Nat) : Met l yX4_stands wsX4_stands ({ frames := 0, cells := 0, slots := 0, locals := 0 } : Room) (zPc [.ref (ad 45)] (dC, dI) (zT cB cI cJ cZ cP cQ) [(ad 45, .inr (4, xf45 ad))] sz [] []) (va_Qi (fun r _ => (fun r => r = 0) r) (zB (dC, dI) (zT cB cI cJ cZ cP cQ) (fun _ : Unit => [(ad 45, .inr (4, xf45 ad))]) [(ad 45, .inr (4, xf45 ad))] sz) (va_A [(ad 45, .inr (4, xf45 ad))] sz)) 0 0 (va_A [(ad 45, .inr (4, xf45 ad))] sz) := by
  refine z_enter (cc := cX4_stands) (maxL := 1) (ret := (some .boolean)) (by decide) rfl (Nat.le_of_ble_eq_true rfl) ?_
  intro p e s m below meth c A ls Q H locs hx hb hr hml hown hts hlocks hin hK hP hD hA hX hS hAe hQ hl
  have hown : s.vm.findClass RX4 = some m.cls := hown
  have hi4 : ∀ w ∈ wsX40, w ∈ wsX4_stands := fun w h => List.mem_cons_of_mem _ (List.mem_append_right _ h)
  have hk0 := hts (.fieldLink RX4 9 "MonthPush$Row" "width" "I") (by decide +kernel)
  have hl : lv_has ls 1 [(0, .ref (ad 45))] := hl
  refine lv_aload_n hx hb dX4_stands_0 rfl (lv_at hl 0 rfl) ?_
  refine va_get (D := (dC, dI)) (ci := 4) (v := .int (-1)) (C := RX4) (T := TX4) (N := 3) hx hb hts hi4 hown hK hP 0 rfl rfl 0 (by decide) hk0 (fun _ h9 => h9) rfl dX4_stands_1 ?_
  refine lv_iconst (v := (-1)) hx hb dX4_stands_4 (by decide) ?_
  refine lv_icmp_eq (tgt := 12) hx hb dX4_stands_5 (by decide) (fun _ => ?_) (fun c => absurd (by decide) c)
  refine lv_iconst (v := 0) hx hb dX4_stands_12 (by decide) ?_
  exact z_zret () hx hb hr hlocks hK hP hD hS hAe hQ rfl rfl (by decide) dX4_stands_13
set_option maxHeartbeats 4000000 in
set_option maxRecDepth 100000 in
theorem c_X4_stands_112 (l : Launch) (dC : Nat → ClassId) (dI : Nat → Nat → Nat) (cB cI cJ cZ cP cQ : ClassId) (ad : Nat → Nat) (sz : Nat) : Met l yX4_stands wsX4_stands ({ frames := 0, cells := 0, slots := 0, locals := 0 } : Room) (zPc [.ref (ad 47)] (dC, dI) (zT cB cI cJ cZ cP cQ) [(ad 47, .inr (4, xf47 ad))] sz [] []) (va_Qi (fun r _ => (fun r => r = 0) r) (zB (dC, dI) (zT cB cI cJ cZ cP cQ) (fun _ : Unit => [(ad 47, .inr (4, xf47 ad))]) [(ad 47, .inr (4, xf47 ad))] sz) (va_A [(ad 47, .inr (4, xf47 ad))] sz)) 0 0 (va_A [(ad 47, .inr (4, xf47 ad))] sz) := by
  refine z_enter (cc := cX4_stands) (maxL := 1) (ret := (some .boolean)) (by decide) rfl (Nat.le_of_ble_eq_true rfl) ?_
  intro p e s m below meth c A ls Q H locs hx hb hr hml hown hts hlocks hin hK hP hD hA hX hS hAe hQ hl
  have hown : s.vm.findClass RX4 = some m.cls := hown
  have hi4 : ∀ w ∈ wsX40, w ∈ wsX4_stands := fun w h => List.mem_cons_of_mem _ (List.mem_append_right _ h)
  have hk0 := hts (.fieldLink RX4 9 "MonthPush$Row" "width" "I") (by decide +kernel)
  have hl : lv_has ls 1 [(0, .ref (ad 47))] := hl
  refine lv_aload_n hx hb dX4_stands_0 rfl (lv_at hl 0 rfl) ?_
  refine va_get (D := (dC, dI)) (ci := 4) (v := .int (-1)) (C := RX4) (T := TX4) (N := 3) hx hb hts hi4 hown hK hP 0 rfl rfl 0 (by decide) hk0 (fun _ h9 => h9) rfl dX4_stands_1 ?_
  refine lv_iconst (v := (-1)) hx hb dX4_stands_4 (by decide) ?_
  refine lv_icmp_eq (tgt := 12) hx hb dX4_stands_5 (by decide) (fun _ => ?_) (fun c => absurd (by decide) c)
  refine lv_iconst (v := 0) hx hb dX4_stands_12 (by decide) ?_
  exact z_zret () hx hb hr hlocks hK hP hD hS hAe hQ rfl rfl (by decide) dX4_stands_13
set_option maxHeartbeats 4000000 in
set_option maxRecDepth 100000 in
theorem c_X4_stands_113 (l : Launch) (dC : Nat → ClassId) (dI : Nat → Nat → Nat) (cB cI cJ cZ cP cQ : ClassId) (ad : Nat → Nat) (sz : Nat) : Met l yX4_stands wsX4_stands ({ frames := 0, cells := 0, slots := 0, locals := 0 } : Room) (zPc [.ref (ad 49)] (dC, dI) (zT cB cI cJ cZ cP cQ) [(ad 49, .inr (4, xf49 ad))] sz [] []) (va_Qi (fun r _ => (fun r => r = 0) r) (zB (dC, dI) (zT cB cI cJ cZ cP cQ) (fun _ : Unit => [(ad 49, .inr (4, xf49 ad))]) [(ad 49, .inr (4, xf49 ad))] sz) (va_A [(ad 49, .inr (4, xf49 ad))] sz)) 0 0 (va_A [(ad 49, .inr (4, xf49 ad))] sz) := by
  refine z_enter (cc := cX4_stands) (maxL := 1) (ret := (some .boolean)) (by decide) rfl (Nat.le_of_ble_eq_true rfl) ?_
  intro p e s m below meth c A ls Q H locs hx hb hr hml hown hts hlocks hin hK hP hD hA hX hS hAe hQ hl
  have hown : s.vm.findClass RX4 = some m.cls := hown
  have hi4 : ∀ w ∈ wsX40, w ∈ wsX4_stands := fun w h => List.mem_cons_of_mem _ (List.mem_append_right _ h)
  have hk0 := hts (.fieldLink RX4 9 "MonthPush$Row" "width" "I") (by decide +kernel)
  have hl : lv_has ls 1 [(0, .ref (ad 49))] := hl
  refine lv_aload_n hx hb dX4_stands_0 rfl (lv_at hl 0 rfl) ?_
  refine va_get (D := (dC, dI)) (ci := 4) (v := .int (-1)) (C := RX4) (T := TX4) (N := 3) hx hb hts hi4 hown hK hP 0 rfl rfl 0 (by decide) hk0 (fun _ h9 => h9) rfl dX4_stands_1 ?_
  refine lv_iconst (v := (-1)) hx hb dX4_stands_4 (by decide) ?_
  refine lv_icmp_eq (tgt := 12) hx hb dX4_stands_5 (by decide) (fun _ => ?_) (fun c => absurd (by decide) c)
  refine lv_iconst (v := 0) hx hb dX4_stands_12 (by decide) ?_
  exact z_zret () hx hb hr hlocks hK hP hD hS hAe hQ rfl rfl (by decide) dX4_stands_13
set_option maxHeartbeats 4000000 in
set_option maxRecDepth 100000 in
theorem c_X4_stands_114 (l : Launch) (dC : Nat → ClassId) (dI : Nat → Nat → Nat) (cB cI cJ cZ cP cQ : ClassId) (ad : Nat → Nat) (sz : Nat) : Met l yX4_stands wsX4_stands ({ frames := 0, cells := 0, slots := 0, locals := 0 } : Room) (zPc [.ref (ad 51)] (dC, dI) (zT cB cI cJ cZ cP cQ) [(ad 51, .inr (4, xf51 ad))] sz [] []) (va_Qi (fun r _ => (fun r => r = 0) r) (zB (dC, dI) (zT cB cI cJ cZ cP cQ) (fun _ : Unit => [(ad 51, .inr (4, xf51 ad))]) [(ad 51, .inr (4, xf51 ad))] sz) (va_A [(ad 51, .inr (4, xf51 ad))] sz)) 0 0 (va_A [(ad 51, .inr (4, xf51 ad))] sz) := by
  refine z_enter (cc := cX4_stands) (maxL := 1) (ret := (some .boolean)) (by decide) rfl (Nat.le_of_ble_eq_true rfl) ?_
  intro p e s m below meth c A ls Q H locs hx hb hr hml hown hts hlocks hin hK hP hD hA hX hS hAe hQ hl
  have hown : s.vm.findClass RX4 = some m.cls := hown
  have hi4 : ∀ w ∈ wsX40, w ∈ wsX4_stands := fun w h => List.mem_cons_of_mem _ (List.mem_append_right _ h)
  have hk0 := hts (.fieldLink RX4 9 "MonthPush$Row" "width" "I") (by decide +kernel)
  have hl : lv_has ls 1 [(0, .ref (ad 51))] := hl
  refine lv_aload_n hx hb dX4_stands_0 rfl (lv_at hl 0 rfl) ?_
  refine va_get (D := (dC, dI)) (ci := 4) (v := .int (-1)) (C := RX4) (T := TX4) (N := 3) hx hb hts hi4 hown hK hP 0 rfl rfl 0 (by decide) hk0 (fun _ h9 => h9) rfl dX4_stands_1 ?_
  refine lv_iconst (v := (-1)) hx hb dX4_stands_4 (by decide) ?_
  refine lv_icmp_eq (tgt := 12) hx hb dX4_stands_5 (by decide) (fun _ => ?_) (fun c => absurd (by decide) c)
  refine lv_iconst (v := 0) hx hb dX4_stands_12 (by decide) ?_
  exact z_zret () hx hb hr hlocks hK hP hD hS hAe hQ rfl rfl (by decide) dX4_stands_13
set_option maxHeartbeats 4000000 in
set_option maxRecDepth 100000 in
theorem c_X8_judge_114 (l : Launch) (dC : Nat → ClassId) (dI : Nat → Nat → Nat) (cB cI cJ cZ cP cQ : ClassId) (ad : Nat → Nat) (sz : Nat) (p1 : Int32) : Met l yX8_judge wsX8_judge ({ frames := 2, cells := 0, slots := 0, locals := 42 } : Room) (zPc [.ref (ad 0), .int p1] (dC, dI) (zT cB cI cJ cZ cP cQ) [(ad 0, .inr (8, xf0 ad)), (ad 44, .inl (cQ, 4, .inr (.inr (.inr (.inr (va_up (va_up (va_up (va_up (fun _ => none) (Int32.toNatClampNeg 0) (some (ad 45))) (Int32.toNatClampNeg 1) (some (ad 47))) (Int32.toNatClampNeg 2) (some (ad 49))) (Int32.toNatClampNeg 3) (some (ad 51)))))))), (ad 45, .inr (4, xf45 ad)), (ad 47, .inr (4, xf47 ad)), (ad 49, .inr (4, xf49 ad)), (ad 51, .inr (4, xf51 ad))] sz [] []) (va_Qi (fun r _ => (fun r => (r = (-2) ∧ p1.toInt < 0) ∨ (r = (-2) ∧ 0 ≤ p1.toInt ∧ 3 < p1.toInt) ∨ (r = (-6) ∧ 0 ≤ p1.toInt ∧ p1.toInt ≤ 3)) r) (zB (dC, dI) (zT cB cI cJ cZ cP cQ) (fun _ : Unit => []) [(ad 0, .inr (8, xf0 ad)), (ad 44, .inl (cQ, 4, .inr (.inr (.inr (.inr (va_up (va_up (va_up (va_up (fun _ => none) (Int32.toNatClampNeg 0) (some (ad 45))) (Int32.toNatClampNeg 1) (some (ad 47))) (Int32.toNatClampNeg 2) (some (ad 49))) (Int32.toNatClampNeg 3) (some (ad 51)))))))), (ad 45, .inr (4, xf45 ad)), (ad 47, .inr (4, xf47 ad)), (ad 49, .inr (4, xf49 ad)), (ad 51, .inr (4, xf51 ad))] sz) (va_A [(ad 0, .inr (8, xf0 ad)), (ad 44, .inl (cQ, 4, .inr (.inr (.inr (.inr (va_up (va_up (va_up (va_up (fun _ => none) (Int32.toNatClampNeg 0) (some (ad 45))) (Int32.toNatClampNeg 1) (some (ad 47))) (Int32.toNatClampNeg 2) (some (ad 49))) (Int32.toNatClampNeg 3) (some (ad 51)))))))), (ad 45, .inr (4, xf45 ad)), (ad 47, .inr (4, xf47 ad)), (ad 49, .inr (4, xf49 ad)), (ad 51, .inr (4, xf51 ad))] sz)) 0 0 (va_A [(ad 0, .inr (8, xf0 ad)), (ad 44, .inl (cQ, 4, .inr (.inr (.inr (.inr (va_up (va_up (va_up (va_up (fun _ => none) (Int32.toNatClampNeg 0) (some (ad 45))) (Int32.toNatClampNeg 1) (some (ad 47))) (Int32.toNatClampNeg 2) (some (ad 49))) (Int32.toNatClampNeg 3) (some (ad 51)))))))), (ad 45, .inr (4, xf45 ad)), (ad 47, .inr (4, xf47 ad)), (ad 49, .inr (4, xf49 ad)), (ad 51, .inr (4, xf51 ad))] sz) := by
  refine z_enter (cc := cX8_judge) (maxL := 4) (ret := (some .int)) (by decide) rfl (Nat.le_of_ble_eq_true rfl) ?_
  intro p e s m below meth c A ls Q H locs hx hb hr hml hown hts hlocks hin hK hP hD hA hX hS hAe hQ hl
  have hown : s.vm.findClass RX8 = some m.cls := hown
  have hi8 : ∀ w ∈ wsX80, w ∈ wsX8_judge := fun w h => List.mem_cons_of_mem _ (List.mem_append_left _ (List.mem_append_left _ (List.mem_append_right _ h)))
  have hk0 := hts (.fieldLink RX8 65 "MonthPush" "slots" "[LMonthPush$Row;") (by decide +kernel)
  have hl : lv_has ls 4 [(0, .ref (ad 0)), (1, .int p1)] := hl
  refine lv_iload_n hx hb dX8_judge_0 rfl (lv_at hl 1 rfl) ?_
  refine z_fini (w' := fun (u1 : Unit) => [(ad 0, .inr (8, xf0 ad)), (ad 44, .inl (cQ, 4, .inr (.inr (.inr (.inr (va_up (va_up (va_up (va_up (fun _ => none) (Int32.toNatClampNeg 0) (some (ad 45))) (Int32.toNatClampNeg 1) (some (ad 47))) (Int32.toNatClampNeg 2) (some (ad 49))) (Int32.toNatClampNeg 3) (some (ad 51)))))))), (ad 45, .inr (4, xf45 ad)), (ad 47, .inr (4, xf47 ad)), (ad 49, .inr (4, xf49 ad)), (ad 51, .inr (4, xf51 ad))]) (va_runS (As := [.int p1]) (rest := []) ⟨hx, hb, hml, hown, hts⟩ (c_X8_isSlot_110 l dC dI cB cI cJ cZ cP cQ H.size p1) (va_cwS 1 hts gX8_judge_X8_isSlot rfl rfl rfl (by decide +kernel) ⟨Nat.le_of_ble_eq_true rfl, Nat.le_of_ble_eq_true rfl⟩) (z_pS hK hP hD zX_nil [] (by decide) rfl) rfl rfl hl.1 rfl (lv_room (Nat.le_of_ble_eq_true rfl)) dX8_judge_1 ⟨Nat.le_of_ble_eq_true rfl, Nat.le_of_ble_eq_true rfl⟩) hP hD hS hA [] [0, 1, 2, 3, 4, 5] [0, 1, 2, 3, 4, 5] rfl rfl (by decide) (by decide) (fun _ => rfl) (by decide) (fun r2 u1 H locs hp3 hP hD hS => ?_)
  have hP : va_P (dC, dI) vwCl [(ad 0, .inr (8, xf0 ad)), (ad 44, .inl (cQ, 4, .inr (.inr (.inr (.inr (va_up (va_up (va_up (va_up (fun _ => none) (Int32.toNatClampNeg 0) (some (ad 45))) (Int32.toNatClampNeg 1) (some (ad 47))) (Int32.toNatClampNeg 2) (some (ad 49))) (Int32.toNatClampNeg 3) (some (ad 51)))))))), (ad 45, .inr (4, xf45 ad)), (ad 47, .inr (4, xf47 ad)), (ad 49, .inr (4, xf49 ad)), (ad 51, .inr (4, xf51 ad))] H := hP
  have hD : va_D A [(ad 0, .inr (8, xf0 ad)), (ad 44, .inl (cQ, 4, .inr (.inr (.inr (.inr (va_up (va_up (va_up (va_up (fun _ => none) (Int32.toNatClampNeg 0) (some (ad 45))) (Int32.toNatClampNeg 1) (some (ad 47))) (Int32.toNatClampNeg 2) (some (ad 49))) (Int32.toNatClampNeg 3) (some (ad 51)))))))), (ad 45, .inr (4, xf45 ad)), (ad 47, .inr (4, xf47 ad)), (ad 49, .inr (4, xf49 ad)), (ad 51, .inr (4, xf51 ad))] := hD
  refine W.widen (k := 0) (n := 0) (by decide) (by decide) ?_
  rcases hp3 with ⟨rfl, f4⟩ | ⟨rfl, f5, f6⟩ | ⟨rfl, f7, f8⟩
  · refine lv_if_ne (tgt := 10) hx hb dX8_judge_4 (by decide) (fun c => absurd (by decide) c) (fun _ => ?_)
    refine lv_bipush (v := (-2)) hx hb dX8_judge_7 (by decide) ?_
    have hP9 := hP.sub (ws' := []) [] rfl
    have hD9 := hD.sub (ws' := []) [] (by decide) rfl
    exact z_iret () hx hb hr hlocks hK hP9 hD9 hS hAe hQ rfl (Or.inl (⟨rfl, f4⟩)) dX8_judge_9
  · refine lv_if_ne (tgt := 10) hx hb dX8_judge_4 (by decide) (fun c => absurd (by decide) c) (fun _ => ?_)
    refine lv_bipush (v := (-2)) hx hb dX8_judge_7 (by decide) ?_
    have hP9 := hP.sub (ws' := []) [] rfl
    have hD9 := hD.sub (ws' := []) [] (by decide) rfl
    exact z_iret () hx hb hr hlocks hK hP9 hD9 hS hAe hQ rfl (Or.inr (Or.inl ⟨rfl, f5, f6⟩)) dX8_judge_9
  · refine lv_if_ne (tgt := 10) hx hb dX8_judge_4 (by decide) (fun _ => ?_) (fun c => absurd c (by decide))
    refine lv_aload_n hx hb dX8_judge_10 rfl (lv_at hl 0 rfl) ?_
    refine va_get (D := (dC, dI)) (ci := 8) (v := .ref (ad 44)) (C := RX8) (T := TX8) (N := 10) hx hb hts hi8 hown hK hP 0 rfl rfl 9 (by decide) hk0 (fun _ h9 => h9) rfl dX8_judge_11 ?_
    refine lv_iload_n hx hb dX8_judge_14 rfl (lv_at hl 1 rfl) ?_
    obtain rfl | rfl | rfl | rfl : p1 = 0 ∨ p1 = 1 ∨ p1 = 2 ∨ p1 = 3 := z_cases4  (by omega) (by omega)
    · have hP : va_P (dC, dI) vwCl [(ad 0, .inr (8, xf0 ad)), (ad 44, .inl (cQ, 4, .inr (.inr (.inr (.inr (va_up (va_up (va_up (va_up (fun _ => none) (Int32.toNatClampNeg 0) (some (ad 45))) (Int32.toNatClampNeg 1) (some (ad 47))) (Int32.toNatClampNeg 2) (some (ad 49))) (Int32.toNatClampNeg 3) (some (ad 51)))))))), (ad 45, .inr (4, xf45 ad)), (ad 47, .inr (4, xf47 ad)), (ad 49, .inr (4, xf49 ad)), (ad 51, .inr (4, xf51 ad))] H := by assumption
      have hD : va_D A [(ad 0, .inr (8, xf0 ad)), (ad 44, .inl (cQ, 4, .inr (.inr (.inr (.inr (va_up (va_up (va_up (va_up (fun _ => none) (Int32.toNatClampNeg 0) (some (ad 45))) (Int32.toNatClampNeg 1) (some (ad 47))) (Int32.toNatClampNeg 2) (some (ad 49))) (Int32.toNatClampNeg 3) (some (ad 51)))))))), (ad 45, .inr (4, xf45 ad)), (ad 47, .inr (4, xf47 ad)), (ad 49, .inr (4, xf49 ad)), (ad 51, .inr (4, xf51 ad))] := by assumption
      refine va_aldq hx hb hK hP 1 5 rfl rfl (z_in (a := 0) (by decide) (by decide) (by decide)) dX8_judge_15 ?_
      refine W.eq (g2 := F0 m 16 ls [.ref (ad 45)]) rfl ?_
      refine lv_astore_n (lv' := [(2, .ref (ad 45)), (0, .ref (ad 0)), (1, .int 0)]) hx hb dX8_judge_16 rfl hl (by decide) rfl (fun ls hl => ?_)
      refine lv_aload_n hx hb dX8_judge_17 rfl (lv_at hl 0 rfl) ?_
      refine z_fini (w' := fun (u9 : Unit) => [(ad 0, .inr (8, xf0 ad)), (ad 44, .inl (cQ, 4, .inr (.inr (.inr (.inr (va_up (va_up (va_up (va_up (fun _ => none) (Int32.toNatClampNeg 0) (some (ad 45))) (Int32.toNatClampNeg 1) (some (ad 47))) (Int32.toNatClampNeg 2) (some (ad 49))) (Int32.toNatClampNeg 3) (some (ad 51)))))))), (ad 45, .inr (4, xf45 ad)), (ad 47, .inr (4, xf47 ad)), (ad 49, .inr (4, xf49 ad)), (ad 51, .inr (4, xf51 ad))]) (va_runV (As := []) (rest := []) ⟨hx, hb, hml, hown, hts⟩ (c_X4_stands_111 l dC dI cB cI cJ cZ cP cQ ad H.size) (cwV 0 hts gX8_judge_X4_stands rfl rfl rfl (by decide +kernel) ⟨Nat.le_of_ble_eq_true rfl, Nat.le_of_ble_eq_true rfl⟩) (z_pV (ci := 4) hK hP hD zX_nil [2] (by decide) rfl rfl 2 rfl) rfl rfl hl.1 rfl (lv_room (Nat.le_of_ble_eq_true rfl)) dX8_judge_18 ⟨Nat.le_of_ble_eq_true rfl, Nat.le_of_ble_eq_true rfl⟩) hP hD hS hA [2] [0, 1, 3, 4, 5] [0, 1, 5, 2, 3, 4] rfl rfl (by decide) (by decide) (fun _ => rfl) (by decide) (fun r10 u9 H locs hp11 hP hD hS => ?_)
      have hP : va_P (dC, dI) vwCl [(ad 0, .inr (8, xf0 ad)), (ad 44, .inl (cQ, 4, .inr (.inr (.inr (.inr (va_up (va_up (va_up (va_up (fun _ => none) (Int32.toNatClampNeg 0) (some (ad 45))) (Int32.toNatClampNeg 1) (some (ad 47))) (Int32.toNatClampNeg 2) (some (ad 49))) (Int32.toNatClampNeg 3) (some (ad 51)))))))), (ad 45, .inr (4, xf45 ad)), (ad 47, .inr (4, xf47 ad)), (ad 49, .inr (4, xf49 ad)), (ad 51, .inr (4, xf51 ad))] H := hP
      have hD : va_D A [(ad 0, .inr (8, xf0 ad)), (ad 44, .inl (cQ, 4, .inr (.inr (.inr (.inr (va_up (va_up (va_up (va_up (fun _ => none) (Int32.toNatClampNeg 0) (some (ad 45))) (Int32.toNatClampNeg 1) (some (ad 47))) (Int32.toNatClampNeg 2) (some (ad 49))) (Int32.toNatClampNeg 3) (some (ad 51)))))))), (ad 45, .inr (4, xf45 ad)), (ad 47, .inr (4, xf47 ad)), (ad 49, .inr (4, xf49 ad)), (ad 51, .inr (4, xf51 ad))] := hD
      refine W.widen (k := 0) (n := 0) (by decide) (by decide) ?_
      obtain rfl : r10 = 0 := hp11
      refine lv_if_ne (tgt := 27) hx hb dX8_judge_21 (by decide) (fun c => absurd (by decide) c) (fun _ => ?_)
      refine lv_bipush (v := (-6)) hx hb dX8_judge_24 (by decide) ?_
      have hP9 := hP.sub (ws' := []) [] rfl
      have hD9 := hD.sub (ws' := []) [] (by decide) rfl
      exact z_iret () hx hb hr hlocks hK hP9 hD9 hS hAe hQ rfl (Or.inr (Or.inr ⟨rfl, f7, f8⟩)) dX8_judge_26
    · have hP : va_P (dC, dI) vwCl [(ad 0, .inr (8, xf0 ad)), (ad 44, .inl (cQ, 4, .inr (.inr (.inr (.inr (va_up (va_up (va_up (va_up (fun _ => none) (Int32.toNatClampNeg 0) (some (ad 45))) (Int32.toNatClampNeg 1) (some (ad 47))) (Int32.toNatClampNeg 2) (some (ad 49))) (Int32.toNatClampNeg 3) (some (ad 51)))))))), (ad 45, .inr (4, xf45 ad)), (ad 47, .inr (4, xf47 ad)), (ad 49, .inr (4, xf49 ad)), (ad 51, .inr (4, xf51 ad))] H := by assumption
      have hD : va_D A [(ad 0, .inr (8, xf0 ad)), (ad 44, .inl (cQ, 4, .inr (.inr (.inr (.inr (va_up (va_up (va_up (va_up (fun _ => none) (Int32.toNatClampNeg 0) (some (ad 45))) (Int32.toNatClampNeg 1) (some (ad 47))) (Int32.toNatClampNeg 2) (some (ad 49))) (Int32.toNatClampNeg 3) (some (ad 51)))))))), (ad 45, .inr (4, xf45 ad)), (ad 47, .inr (4, xf47 ad)), (ad 49, .inr (4, xf49 ad)), (ad 51, .inr (4, xf51 ad))] := by assumption
      refine va_aldq hx hb hK hP 1 5 rfl rfl (z_in (a := 1) (by decide) (by decide) (by decide)) dX8_judge_15 ?_
      refine W.eq (g2 := F0 m 16 ls [.ref (ad 47)]) rfl ?_
      refine lv_astore_n (lv' := [(2, .ref (ad 47)), (0, .ref (ad 0)), (1, .int 1)]) hx hb dX8_judge_16 rfl hl (by decide) rfl (fun ls hl => ?_)
      refine lv_aload_n hx hb dX8_judge_17 rfl (lv_at hl 0 rfl) ?_
      refine z_fini (w' := fun (u12 : Unit) => [(ad 0, .inr (8, xf0 ad)), (ad 44, .inl (cQ, 4, .inr (.inr (.inr (.inr (va_up (va_up (va_up (va_up (fun _ => none) (Int32.toNatClampNeg 0) (some (ad 45))) (Int32.toNatClampNeg 1) (some (ad 47))) (Int32.toNatClampNeg 2) (some (ad 49))) (Int32.toNatClampNeg 3) (some (ad 51)))))))), (ad 45, .inr (4, xf45 ad)), (ad 47, .inr (4, xf47 ad)), (ad 49, .inr (4, xf49 ad)), (ad 51, .inr (4, xf51 ad))]) (va_runV (As := []) (rest := []) ⟨hx, hb, hml, hown, hts⟩ (c_X4_stands_112 l dC dI cB cI cJ cZ cP cQ ad H.size) (cwV 0 hts gX8_judge_X4_stands rfl rfl rfl (by decide +kernel) ⟨Nat.le_of_ble_eq_true rfl, Nat.le_of_ble_eq_true rfl⟩) (z_pV (ci := 4) hK hP hD zX_nil [3] (by decide) rfl rfl 3 rfl) rfl rfl hl.1 rfl (lv_room (Nat.le_of_ble_eq_true rfl)) dX8_judge_18 ⟨Nat.le_of_ble_eq_true rfl, Nat.le_of_ble_eq_true rfl⟩) hP hD hS hA [3] [0, 1, 2, 4, 5] [0, 1, 2, 5, 3, 4] rfl rfl (by decide) (by decide) (fun _ => rfl) (by decide) (fun r13 u12 H locs hp14 hP hD hS => ?_)
      have hP : va_P (dC, dI) vwCl [(ad 0, .inr (8, xf0 ad)), (ad 44, .inl (cQ, 4, .inr (.inr (.inr (.inr (va_up (va_up (va_up (va_up (fun _ => none) (Int32.toNatClampNeg 0) (some (ad 45))) (Int32.toNatClampNeg 1) (some (ad 47))) (Int32.toNatClampNeg 2) (some (ad 49))) (Int32.toNatClampNeg 3) (some (ad 51)))))))), (ad 45, .inr (4, xf45 ad)), (ad 47, .inr (4, xf47 ad)), (ad 49, .inr (4, xf49 ad)), (ad 51, .inr (4, xf51 ad))] H := hP
      have hD : va_D A [(ad 0, .inr (8, xf0 ad)), (ad 44, .inl (cQ, 4, .inr (.inr (.inr (.inr (va_up (va_up (va_up (va_up (fun _ => none) (Int32.toNatClampNeg 0) (some (ad 45))) (Int32.toNatClampNeg 1) (some (ad 47))) (Int32.toNatClampNeg 2) (some (ad 49))) (Int32.toNatClampNeg 3) (some (ad 51)))))))), (ad 45, .inr (4, xf45 ad)), (ad 47, .inr (4, xf47 ad)), (ad 49, .inr (4, xf49 ad)), (ad 51, .inr (4, xf51 ad))] := hD
      refine W.widen (k := 0) (n := 0) (by decide) (by decide) ?_
      obtain rfl : r13 = 0 := hp14
      refine lv_if_ne (tgt := 27) hx hb dX8_judge_21 (by decide) (fun c => absurd (by decide) c) (fun _ => ?_)
      refine lv_bipush (v := (-6)) hx hb dX8_judge_24 (by decide) ?_
      have hP9 := hP.sub (ws' := []) [] rfl
      have hD9 := hD.sub (ws' := []) [] (by decide) rfl
      exact z_iret () hx hb hr hlocks hK hP9 hD9 hS hAe hQ rfl (Or.inr (Or.inr ⟨rfl, f7, f8⟩)) dX8_judge_26
    · have hP : va_P (dC, dI) vwCl [(ad 0, .inr (8, xf0 ad)), (ad 44, .inl (cQ, 4, .inr (.inr (.inr (.inr (va_up (va_up (va_up (va_up (fun _ => none) (Int32.toNatClampNeg 0) (some (ad 45))) (Int32.toNatClampNeg 1) (some (ad 47))) (Int32.toNatClampNeg 2) (some (ad 49))) (Int32.toNatClampNeg 3) (some (ad 51)))))))), (ad 45, .inr (4, xf45 ad)), (ad 47, .inr (4, xf47 ad)), (ad 49, .inr (4, xf49 ad)), (ad 51, .inr (4, xf51 ad))] H := by assumption
      have hD : va_D A [(ad 0, .inr (8, xf0 ad)), (ad 44, .inl (cQ, 4, .inr (.inr (.inr (.inr (va_up (va_up (va_up (va_up (fun _ => none) (Int32.toNatClampNeg 0) (some (ad 45))) (Int32.toNatClampNeg 1) (some (ad 47))) (Int32.toNatClampNeg 2) (some (ad 49))) (Int32.toNatClampNeg 3) (some (ad 51)))))))), (ad 45, .inr (4, xf45 ad)), (ad 47, .inr (4, xf47 ad)), (ad 49, .inr (4, xf49 ad)), (ad 51, .inr (4, xf51 ad))] := by assumption
      refine va_aldq hx hb hK hP 1 5 rfl rfl (z_in (a := 2) (by decide) (by decide) (by decide)) dX8_judge_15 ?_
      refine W.eq (g2 := F0 m 16 ls [.ref (ad 49)]) rfl ?_
      refine lv_astore_n (lv' := [(2, .ref (ad 49)), (0, .ref (ad 0)), (1, .int 2)]) hx hb dX8_judge_16 rfl hl (by decide) rfl (fun ls hl => ?_)
      refine lv_aload_n hx hb dX8_judge_17 rfl (lv_at hl 0 rfl) ?_
      refine z_fini (w' := fun (u15 : Unit) => [(ad 0, .inr (8, xf0 ad)), (ad 44, .inl (cQ, 4, .inr (.inr (.inr (.inr (va_up (va_up (va_up (va_up (fun _ => none) (Int32.toNatClampNeg 0) (some (ad 45))) (Int32.toNatClampNeg 1) (some (ad 47))) (Int32.toNatClampNeg 2) (some (ad 49))) (Int32.toNatClampNeg 3) (some (ad 51)))))))), (ad 45, .inr (4, xf45 ad)), (ad 47, .inr (4, xf47 ad)), (ad 49, .inr (4, xf49 ad)), (ad 51, .inr (4, xf51 ad))]) (va_runV (As := []) (rest := []) ⟨hx, hb, hml, hown, hts⟩ (c_X4_stands_113 l dC dI cB cI cJ cZ cP cQ ad H.size) (cwV 0 hts gX8_judge_X4_stands rfl rfl rfl (by decide +kernel) ⟨Nat.le_of_ble_eq_true rfl, Nat.le_of_ble_eq_true rfl⟩) (z_pV (ci := 4) hK hP hD zX_nil [4] (by decide) rfl rfl 4 rfl) rfl rfl hl.1 rfl (lv_room (Nat.le_of_ble_eq_true rfl)) dX8_judge_18 ⟨Nat.le_of_ble_eq_true rfl, Nat.le_of_ble_eq_true rfl⟩) hP hD hS hA [4] [0, 1, 2, 3, 5] [0, 1, 2, 3, 5, 4] rfl rfl (by decide) (by decide) (fun _ => rfl) (by decide) (fun r16 u15 H locs hp17 hP hD hS => ?_)
      have hP : va_P (dC, dI) vwCl [(ad 0, .inr (8, xf0 ad)), (ad 44, .inl (cQ, 4, .inr (.inr (.inr (.inr (va_up (va_up (va_up (va_up (fun _ => none) (Int32.toNatClampNeg 0) (some (ad 45))) (Int32.toNatClampNeg 1) (some (ad 47))) (Int32.toNatClampNeg 2) (some (ad 49))) (Int32.toNatClampNeg 3) (some (ad 51)))))))), (ad 45, .inr (4, xf45 ad)), (ad 47, .inr (4, xf47 ad)), (ad 49, .inr (4, xf49 ad)), (ad 51, .inr (4, xf51 ad))] H := hP
      have hD : va_D A [(ad 0, .inr (8, xf0 ad)), (ad 44, .inl (cQ, 4, .inr (.inr (.inr (.inr (va_up (va_up (va_up (va_up (fun _ => none) (Int32.toNatClampNeg 0) (some (ad 45))) (Int32.toNatClampNeg 1) (some (ad 47))) (Int32.toNatClampNeg 2) (some (ad 49))) (Int32.toNatClampNeg 3) (some (ad 51)))))))), (ad 45, .inr (4, xf45 ad)), (ad 47, .inr (4, xf47 ad)), (ad 49, .inr (4, xf49 ad)), (ad 51, .inr (4, xf51 ad))] := hD
      refine W.widen (k := 0) (n := 0) (by decide) (by decide) ?_
      obtain rfl : r16 = 0 := hp17
      refine lv_if_ne (tgt := 27) hx hb dX8_judge_21 (by decide) (fun c => absurd (by decide) c) (fun _ => ?_)
      refine lv_bipush (v := (-6)) hx hb dX8_judge_24 (by decide) ?_
      have hP9 := hP.sub (ws' := []) [] rfl
      have hD9 := hD.sub (ws' := []) [] (by decide) rfl
      exact z_iret () hx hb hr hlocks hK hP9 hD9 hS hAe hQ rfl (Or.inr (Or.inr ⟨rfl, f7, f8⟩)) dX8_judge_26
    · have hP : va_P (dC, dI) vwCl [(ad 0, .inr (8, xf0 ad)), (ad 44, .inl (cQ, 4, .inr (.inr (.inr (.inr (va_up (va_up (va_up (va_up (fun _ => none) (Int32.toNatClampNeg 0) (some (ad 45))) (Int32.toNatClampNeg 1) (some (ad 47))) (Int32.toNatClampNeg 2) (some (ad 49))) (Int32.toNatClampNeg 3) (some (ad 51)))))))), (ad 45, .inr (4, xf45 ad)), (ad 47, .inr (4, xf47 ad)), (ad 49, .inr (4, xf49 ad)), (ad 51, .inr (4, xf51 ad))] H := by assumption
      have hD : va_D A [(ad 0, .inr (8, xf0 ad)), (ad 44, .inl (cQ, 4, .inr (.inr (.inr (.inr (va_up (va_up (va_up (va_up (fun _ => none) (Int32.toNatClampNeg 0) (some (ad 45))) (Int32.toNatClampNeg 1) (some (ad 47))) (Int32.toNatClampNeg 2) (some (ad 49))) (Int32.toNatClampNeg 3) (some (ad 51)))))))), (ad 45, .inr (4, xf45 ad)), (ad 47, .inr (4, xf47 ad)), (ad 49, .inr (4, xf49 ad)), (ad 51, .inr (4, xf51 ad))] := by assumption
      refine va_aldq hx hb hK hP 1 5 rfl rfl (z_in (a := 3) (by decide) (by decide) (by decide)) dX8_judge_15 ?_
      refine W.eq (g2 := F0 m 16 ls [.ref (ad 51)]) rfl ?_
      refine lv_astore_n (lv' := [(2, .ref (ad 51)), (0, .ref (ad 0)), (1, .int 3)]) hx hb dX8_judge_16 rfl hl (by decide) rfl (fun ls hl => ?_)
      refine lv_aload_n hx hb dX8_judge_17 rfl (lv_at hl 0 rfl) ?_
      refine z_fini (w' := fun (u18 : Unit) => [(ad 0, .inr (8, xf0 ad)), (ad 44, .inl (cQ, 4, .inr (.inr (.inr (.inr (va_up (va_up (va_up (va_up (fun _ => none) (Int32.toNatClampNeg 0) (some (ad 45))) (Int32.toNatClampNeg 1) (some (ad 47))) (Int32.toNatClampNeg 2) (some (ad 49))) (Int32.toNatClampNeg 3) (some (ad 51)))))))), (ad 45, .inr (4, xf45 ad)), (ad 47, .inr (4, xf47 ad)), (ad 49, .inr (4, xf49 ad)), (ad 51, .inr (4, xf51 ad))]) (va_runV (As := []) (rest := []) ⟨hx, hb, hml, hown, hts⟩ (c_X4_stands_114 l dC dI cB cI cJ cZ cP cQ ad H.size) (cwV 0 hts gX8_judge_X4_stands rfl rfl rfl (by decide +kernel) ⟨Nat.le_of_ble_eq_true rfl, Nat.le_of_ble_eq_true rfl⟩) (z_pV (ci := 4) hK hP hD zX_nil [5] (by decide) rfl rfl 5 rfl) rfl rfl hl.1 rfl (lv_room (Nat.le_of_ble_eq_true rfl)) dX8_judge_18 ⟨Nat.le_of_ble_eq_true rfl, Nat.le_of_ble_eq_true rfl⟩) hP hD hS hA [5] [0, 1, 2, 3, 4] [0, 1, 2, 3, 4, 5] rfl rfl (by decide) (by decide) (fun _ => rfl) (by decide) (fun r19 u18 H locs hp20 hP hD hS => ?_)
      have hP : va_P (dC, dI) vwCl [(ad 0, .inr (8, xf0 ad)), (ad 44, .inl (cQ, 4, .inr (.inr (.inr (.inr (va_up (va_up (va_up (va_up (fun _ => none) (Int32.toNatClampNeg 0) (some (ad 45))) (Int32.toNatClampNeg 1) (some (ad 47))) (Int32.toNatClampNeg 2) (some (ad 49))) (Int32.toNatClampNeg 3) (some (ad 51)))))))), (ad 45, .inr (4, xf45 ad)), (ad 47, .inr (4, xf47 ad)), (ad 49, .inr (4, xf49 ad)), (ad 51, .inr (4, xf51 ad))] H := hP
      have hD : va_D A [(ad 0, .inr (8, xf0 ad)), (ad 44, .inl (cQ, 4, .inr (.inr (.inr (.inr (va_up (va_up (va_up (va_up (fun _ => none) (Int32.toNatClampNeg 0) (some (ad 45))) (Int32.toNatClampNeg 1) (some (ad 47))) (Int32.toNatClampNeg 2) (some (ad 49))) (Int32.toNatClampNeg 3) (some (ad 51)))))))), (ad 45, .inr (4, xf45 ad)), (ad 47, .inr (4, xf47 ad)), (ad 49, .inr (4, xf49 ad)), (ad 51, .inr (4, xf51 ad))] := hD
      refine W.widen (k := 0) (n := 0) (by decide) (by decide) ?_
      obtain rfl : r19 = 0 := hp20
      refine lv_if_ne (tgt := 27) hx hb dX8_judge_21 (by decide) (fun c => absurd (by decide) c) (fun _ => ?_)
      refine lv_bipush (v := (-6)) hx hb dX8_judge_24 (by decide) ?_
      have hP9 := hP.sub (ws' := []) [] rfl
      have hD9 := hD.sub (ws' := []) [] (by decide) rfl
      exact z_iret () hx hb hr hlocks hK hP9 hD9 hS hAe hQ rfl (Or.inr (Or.inr ⟨rfl, f7, f8⟩)) dX8_judge_26
set_option maxHeartbeats 4000000 in
set_option maxRecDepth 100000 in
theorem c_X8_sheets_115 (l : Launch) (dC : Nat → ClassId) (dI : Nat → Nat → Nat) (cB cI cJ cZ cP cQ : ClassId) (ad : Nat → Nat) (sz : Nat) (p1 : Int32) : Met l yX8_sheets wsX8_sheets ({ frames := 2, cells := 0, slots := 0, locals := 42 } : Room) (zPc [.ref (ad 0), .int p1] (dC, dI) (zT cB cI cJ cZ cP cQ) [(ad 0, .inr (8, xf0 ad)), (ad 44, .inl (cQ, 4, .inr (.inr (.inr (.inr (va_up (va_up (va_up (va_up (fun _ => none) (Int32.toNatClampNeg 0) (some (ad 45))) (Int32.toNatClampNeg 1) (some (ad 47))) (Int32.toNatClampNeg 2) (some (ad 49))) (Int32.toNatClampNeg 3) (some (ad 51)))))))), (ad 45, .inr (4, xf45 ad)), (ad 47, .inr (4, xf47 ad)), (ad 49, .inr (4, xf49 ad)), (ad 51, .inr (4, xf51 ad))] sz [] []) (va_Qi (fun r _ => (fun r => (r = (-2) ∧ p1.toInt < 0) ∨ (r = (-2) ∧ 0 ≤ p1.toInt ∧ 3 < p1.toInt) ∨ (r = (-6) ∧ 0 ≤ p1.toInt ∧ p1.toInt ≤ 3)) r) (zB (dC, dI) (zT cB cI cJ cZ cP cQ) (fun _ : Unit => []) [(ad 0, .inr (8, xf0 ad)), (ad 44, .inl (cQ, 4, .inr (.inr (.inr (.inr (va_up (va_up (va_up (va_up (fun _ => none) (Int32.toNatClampNeg 0) (some (ad 45))) (Int32.toNatClampNeg 1) (some (ad 47))) (Int32.toNatClampNeg 2) (some (ad 49))) (Int32.toNatClampNeg 3) (some (ad 51)))))))), (ad 45, .inr (4, xf45 ad)), (ad 47, .inr (4, xf47 ad)), (ad 49, .inr (4, xf49 ad)), (ad 51, .inr (4, xf51 ad))] sz) (va_A [(ad 0, .inr (8, xf0 ad)), (ad 44, .inl (cQ, 4, .inr (.inr (.inr (.inr (va_up (va_up (va_up (va_up (fun _ => none) (Int32.toNatClampNeg 0) (some (ad 45))) (Int32.toNatClampNeg 1) (some (ad 47))) (Int32.toNatClampNeg 2) (some (ad 49))) (Int32.toNatClampNeg 3) (some (ad 51)))))))), (ad 45, .inr (4, xf45 ad)), (ad 47, .inr (4, xf47 ad)), (ad 49, .inr (4, xf49 ad)), (ad 51, .inr (4, xf51 ad))] sz)) 0 0 (va_A [(ad 0, .inr (8, xf0 ad)), (ad 44, .inl (cQ, 4, .inr (.inr (.inr (.inr (va_up (va_up (va_up (va_up (fun _ => none) (Int32.toNatClampNeg 0) (some (ad 45))) (Int32.toNatClampNeg 1) (some (ad 47))) (Int32.toNatClampNeg 2) (some (ad 49))) (Int32.toNatClampNeg 3) (some (ad 51)))))))), (ad 45, .inr (4, xf45 ad)), (ad 47, .inr (4, xf47 ad)), (ad 49, .inr (4, xf49 ad)), (ad 51, .inr (4, xf51 ad))] sz) := by
  refine z_enter (cc := cX8_sheets) (maxL := 6) (ret := (some .int)) (by decide) rfl (Nat.le_of_ble_eq_true rfl) ?_
  intro p e s m below meth c A ls Q H locs hx hb hr hml hown hts hlocks hin hK hP hD hA hX hS hAe hQ hl
  have hown : s.vm.findClass RX8 = some m.cls := hown
  have hi8 : ∀ w ∈ wsX80, w ∈ wsX8_sheets := fun w h => List.mem_cons_of_mem _ (List.mem_append_left _ (List.mem_append_left _ (List.mem_append_left _ (List.mem_append_right _ h))))
  have hk0 := hts (.fieldLink RX8 65 "MonthPush" "slots" "[LMonthPush$Row;") (by decide +kernel)
  have hl : lv_has ls 6 [(0, .ref (ad 0)), (1, .int p1)] := hl
  refine lv_iload_n hx hb dX8_sheets_0 rfl (lv_at hl 1 rfl) ?_
  refine z_fini (w' := fun (u1 : Unit) => [(ad 0, .inr (8, xf0 ad)), (ad 44, .inl (cQ, 4, .inr (.inr (.inr (.inr (va_up (va_up (va_up (va_up (fun _ => none) (Int32.toNatClampNeg 0) (some (ad 45))) (Int32.toNatClampNeg 1) (some (ad 47))) (Int32.toNatClampNeg 2) (some (ad 49))) (Int32.toNatClampNeg 3) (some (ad 51)))))))), (ad 45, .inr (4, xf45 ad)), (ad 47, .inr (4, xf47 ad)), (ad 49, .inr (4, xf49 ad)), (ad 51, .inr (4, xf51 ad))]) (va_runS (As := [.int p1]) (rest := []) ⟨hx, hb, hml, hown, hts⟩ (c_X8_isSlot_110 l dC dI cB cI cJ cZ cP cQ H.size p1) (va_cwS 1 hts gX8_sheets_X8_isSlot rfl rfl rfl (by decide +kernel) ⟨Nat.le_of_ble_eq_true rfl, Nat.le_of_ble_eq_true rfl⟩) (z_pS hK hP hD zX_nil [] (by decide) rfl) rfl rfl hl.1 rfl (lv_room (Nat.le_of_ble_eq_true rfl)) dX8_sheets_1 ⟨Nat.le_of_ble_eq_true rfl, Nat.le_of_ble_eq_true rfl⟩) hP hD hS hA [] [0, 1, 2, 3, 4, 5] [0, 1, 2, 3, 4, 5] rfl rfl (by decide) (by decide) (fun _ => rfl) (by decide) (fun r2 u1 H locs hp3 hP hD hS => ?_)
  have hP : va_P (dC, dI) vwCl [(ad 0, .inr (8, xf0 ad)), (ad 44, .inl (cQ, 4, .inr (.inr (.inr (.inr (va_up (va_up (va_up (va_up (fun _ => none) (Int32.toNatClampNeg 0) (some (ad 45))) (Int32.toNatClampNeg 1) (some (ad 47))) (Int32.toNatClampNeg 2) (some (ad 49))) (Int32.toNatClampNeg 3) (some (ad 51)))))))), (ad 45, .inr (4, xf45 ad)), (ad 47, .inr (4, xf47 ad)), (ad 49, .inr (4, xf49 ad)), (ad 51, .inr (4, xf51 ad))] H := hP
  have hD : va_D A [(ad 0, .inr (8, xf0 ad)), (ad 44, .inl (cQ, 4, .inr (.inr (.inr (.inr (va_up (va_up (va_up (va_up (fun _ => none) (Int32.toNatClampNeg 0) (some (ad 45))) (Int32.toNatClampNeg 1) (some (ad 47))) (Int32.toNatClampNeg 2) (some (ad 49))) (Int32.toNatClampNeg 3) (some (ad 51)))))))), (ad 45, .inr (4, xf45 ad)), (ad 47, .inr (4, xf47 ad)), (ad 49, .inr (4, xf49 ad)), (ad 51, .inr (4, xf51 ad))] := hD
  refine W.widen (k := 0) (n := 0) (by decide) (by decide) ?_
  rcases hp3 with ⟨rfl, f4⟩ | ⟨rfl, f5, f6⟩ | ⟨rfl, f7, f8⟩
  · refine lv_if_ne (tgt := 10) hx hb dX8_sheets_4 (by decide) (fun c => absurd (by decide) c) (fun _ => ?_)
    refine lv_bipush (v := (-2)) hx hb dX8_sheets_7 (by decide) ?_
    have hP9 := hP.sub (ws' := []) [] rfl
    have hD9 := hD.sub (ws' := []) [] (by decide) rfl
    exact z_iret () hx hb hr hlocks hK hP9 hD9 hS hAe hQ rfl (Or.inl (⟨rfl, f4⟩)) dX8_sheets_9
  · refine lv_if_ne (tgt := 10) hx hb dX8_sheets_4 (by decide) (fun c => absurd (by decide) c) (fun _ => ?_)
    refine lv_bipush (v := (-2)) hx hb dX8_sheets_7 (by decide) ?_
    have hP9 := hP.sub (ws' := []) [] rfl
    have hD9 := hD.sub (ws' := []) [] (by decide) rfl
    exact z_iret () hx hb hr hlocks hK hP9 hD9 hS hAe hQ rfl (Or.inr (Or.inl ⟨rfl, f5, f6⟩)) dX8_sheets_9
  · refine lv_if_ne (tgt := 10) hx hb dX8_sheets_4 (by decide) (fun _ => ?_) (fun c => absurd c (by decide))
    refine lv_aload_n hx hb dX8_sheets_10 rfl (lv_at hl 0 rfl) ?_
    refine va_get (D := (dC, dI)) (ci := 8) (v := .ref (ad 44)) (C := RX8) (T := TX8) (N := 10) hx hb hts hi8 hown hK hP 0 rfl rfl 9 (by decide) hk0 (fun _ h9 => h9) rfl dX8_sheets_11 ?_
    refine lv_iload_n hx hb dX8_sheets_14 rfl (lv_at hl 1 rfl) ?_
    obtain rfl | rfl | rfl | rfl : p1 = 0 ∨ p1 = 1 ∨ p1 = 2 ∨ p1 = 3 := z_cases4  (by omega) (by omega)
    · have hP : va_P (dC, dI) vwCl [(ad 0, .inr (8, xf0 ad)), (ad 44, .inl (cQ, 4, .inr (.inr (.inr (.inr (va_up (va_up (va_up (va_up (fun _ => none) (Int32.toNatClampNeg 0) (some (ad 45))) (Int32.toNatClampNeg 1) (some (ad 47))) (Int32.toNatClampNeg 2) (some (ad 49))) (Int32.toNatClampNeg 3) (some (ad 51)))))))), (ad 45, .inr (4, xf45 ad)), (ad 47, .inr (4, xf47 ad)), (ad 49, .inr (4, xf49 ad)), (ad 51, .inr (4, xf51 ad))] H := by assumption
      have hD : va_D A [(ad 0, .inr (8, xf0 ad)), (ad 44, .inl (cQ, 4, .inr (.inr (.inr (.inr (va_up (va_up (va_up (va_up (fun _ => none) (Int32.toNatClampNeg 0) (some (ad 45))) (Int32.toNatClampNeg 1) (some (ad 47))) (Int32.toNatClampNeg 2) (some (ad 49))) (Int32.toNatClampNeg 3) (some (ad 51)))))))), (ad 45, .inr (4, xf45 ad)), (ad 47, .inr (4, xf47 ad)), (ad 49, .inr (4, xf49 ad)), (ad 51, .inr (4, xf51 ad))] := by assumption
      refine va_aldq hx hb hK hP 1 5 rfl rfl (z_in (a := 0) (by decide) (by decide) (by decide)) dX8_sheets_15 ?_
      refine W.eq (g2 := F0 m 16 ls [.ref (ad 45)]) rfl ?_
      refine lv_astore_n (lv' := [(2, .ref (ad 45)), (0, .ref (ad 0)), (1, .int 0)]) hx hb dX8_sheets_16 rfl hl (by decide) rfl (fun ls hl => ?_)
      refine lv_aload_n hx hb dX8_sheets_17 rfl (lv_at hl 0 rfl) ?_
      refine z_fini (w' := fun (u9 : Unit) => [(ad 0, .inr (8, xf0 ad)), (ad 44, .inl (cQ, 4, .inr (.inr (.inr (.inr (va_up (va_up (va_up (va_up (fun _ => none) (Int32.toNatClampNeg 0) (some (ad 45))) (Int32.toNatClampNeg 1) (some (ad 47))) (Int32.toNatClampNeg 2) (some (ad 49))) (Int32.toNatClampNeg 3) (some (ad 51)))))))), (ad 45, .inr (4, xf45 ad)), (ad 47, .inr (4, xf47 ad)), (ad 49, .inr (4, xf49 ad)), (ad 51, .inr (4, xf51 ad))]) (va_runV (As := []) (rest := []) ⟨hx, hb, hml, hown, hts⟩ (c_X4_stands_111 l dC dI cB cI cJ cZ cP cQ ad H.size) (cwV 0 hts gX8_sheets_X4_stands rfl rfl rfl (by decide +kernel) ⟨Nat.le_of_ble_eq_true rfl, Nat.le_of_ble_eq_true rfl⟩) (z_pV (ci := 4) hK hP hD zX_nil [2] (by decide) rfl rfl 2 rfl) rfl rfl hl.1 rfl (lv_room (Nat.le_of_ble_eq_true rfl)) dX8_sheets_18 ⟨Nat.le_of_ble_eq_true rfl, Nat.le_of_ble_eq_true rfl⟩) hP hD hS hA [2] [0, 1, 3, 4, 5] [0, 1, 5, 2, 3, 4] rfl rfl (by decide) (by decide) (fun _ => rfl) (by decide) (fun r10 u9 H locs hp11 hP hD hS => ?_)
      have hP : va_P (dC, dI) vwCl [(ad 0, .inr (8, xf0 ad)), (ad 44, .inl (cQ, 4, .inr (.inr (.inr (.inr (va_up (va_up (va_up (va_up (fun _ => none) (Int32.toNatClampNeg 0) (some (ad 45))) (Int32.toNatClampNeg 1) (some (ad 47))) (Int32.toNatClampNeg 2) (some (ad 49))) (Int32.toNatClampNeg 3) (some (ad 51)))))))), (ad 45, .inr (4, xf45 ad)), (ad 47, .inr (4, xf47 ad)), (ad 49, .inr (4, xf49 ad)), (ad 51, .inr (4, xf51 ad))] H := hP
      have hD : va_D A [(ad 0, .inr (8, xf0 ad)), (ad 44, .inl (cQ, 4, .inr (.inr (.inr (.inr (va_up (va_up (va_up (va_up (fun _ => none) (Int32.toNatClampNeg 0) (some (ad 45))) (Int32.toNatClampNeg 1) (some (ad 47))) (Int32.toNatClampNeg 2) (some (ad 49))) (Int32.toNatClampNeg 3) (some (ad 51)))))))), (ad 45, .inr (4, xf45 ad)), (ad 47, .inr (4, xf47 ad)), (ad 49, .inr (4, xf49 ad)), (ad 51, .inr (4, xf51 ad))] := hD
      refine W.widen (k := 0) (n := 0) (by decide) (by decide) ?_
      obtain rfl : r10 = 0 := hp11
      refine lv_if_ne (tgt := 27) hx hb dX8_sheets_21 (by decide) (fun c => absurd (by decide) c) (fun _ => ?_)
      refine lv_bipush (v := (-6)) hx hb dX8_sheets_24 (by decide) ?_
      have hP9 := hP.sub (ws' := []) [] rfl
      have hD9 := hD.sub (ws' := []) [] (by decide) rfl
      exact z_iret () hx hb hr hlocks hK hP9 hD9 hS hAe hQ rfl (Or.inr (Or.inr ⟨rfl, f7, f8⟩)) dX8_sheets_26
    · have hP : va_P (dC, dI) vwCl [(ad 0, .inr (8, xf0 ad)), (ad 44, .inl (cQ, 4, .inr (.inr (.inr (.inr (va_up (va_up (va_up (va_up (fun _ => none) (Int32.toNatClampNeg 0) (some (ad 45))) (Int32.toNatClampNeg 1) (some (ad 47))) (Int32.toNatClampNeg 2) (some (ad 49))) (Int32.toNatClampNeg 3) (some (ad 51)))))))), (ad 45, .inr (4, xf45 ad)), (ad 47, .inr (4, xf47 ad)), (ad 49, .inr (4, xf49 ad)), (ad 51, .inr (4, xf51 ad))] H := by assumption
      have hD : va_D A [(ad 0, .inr (8, xf0 ad)), (ad 44, .inl (cQ, 4, .inr (.inr (.inr (.inr (va_up (va_up (va_up (va_up (fun _ => none) (Int32.toNatClampNeg 0) (some (ad 45))) (Int32.toNatClampNeg 1) (some (ad 47))) (Int32.toNatClampNeg 2) (some (ad 49))) (Int32.toNatClampNeg 3) (some (ad 51)))))))), (ad 45, .inr (4, xf45 ad)), (ad 47, .inr (4, xf47 ad)), (ad 49, .inr (4, xf49 ad)), (ad 51, .inr (4, xf51 ad))] := by assumption
      refine va_aldq hx hb hK hP 1 5 rfl rfl (z_in (a := 1) (by decide) (by decide) (by decide)) dX8_sheets_15 ?_
      refine W.eq (g2 := F0 m 16 ls [.ref (ad 47)]) rfl ?_
      refine lv_astore_n (lv' := [(2, .ref (ad 47)), (0, .ref (ad 0)), (1, .int 1)]) hx hb dX8_sheets_16 rfl hl (by decide) rfl (fun ls hl => ?_)
      refine lv_aload_n hx hb dX8_sheets_17 rfl (lv_at hl 0 rfl) ?_
      refine z_fini (w' := fun (u12 : Unit) => [(ad 0, .inr (8, xf0 ad)), (ad 44, .inl (cQ, 4, .inr (.inr (.inr (.inr (va_up (va_up (va_up (va_up (fun _ => none) (Int32.toNatClampNeg 0) (some (ad 45))) (Int32.toNatClampNeg 1) (some (ad 47))) (Int32.toNatClampNeg 2) (some (ad 49))) (Int32.toNatClampNeg 3) (some (ad 51)))))))), (ad 45, .inr (4, xf45 ad)), (ad 47, .inr (4, xf47 ad)), (ad 49, .inr (4, xf49 ad)), (ad 51, .inr (4, xf51 ad))]) (va_runV (As := []) (rest := []) ⟨hx, hb, hml, hown, hts⟩ (c_X4_stands_112 l dC dI cB cI cJ cZ cP cQ ad H.size) (cwV 0 hts gX8_sheets_X4_stands rfl rfl rfl (by decide +kernel) ⟨Nat.le_of_ble_eq_true rfl, Nat.le_of_ble_eq_true rfl⟩) (z_pV (ci := 4) hK hP hD zX_nil [3] (by decide) rfl rfl 3 rfl) rfl rfl hl.1 rfl (lv_room (Nat.le_of_ble_eq_true rfl)) dX8_sheets_18 ⟨Nat.le_of_ble_eq_true rfl, Nat.le_of_ble_eq_true rfl⟩) hP hD hS hA [3] [0, 1, 2, 4, 5] [0, 1, 2, 5, 3, 4] rfl rfl (by decide) (by decide) (fun _ => rfl) (by decide) (fun r13 u12 H locs hp14 hP hD hS => ?_)
      have hP : va_P (dC, dI) vwCl [(ad 0, .inr (8, xf0 ad)), (ad 44, .inl (cQ, 4, .inr (.inr (.inr (.inr (va_up (va_up (va_up (va_up (fun _ => none) (Int32.toNatClampNeg 0) (some (ad 45))) (Int32.toNatClampNeg 1) (some (ad 47))) (Int32.toNatClampNeg 2) (some (ad 49))) (Int32.toNatClampNeg 3) (some (ad 51)))))))), (ad 45, .inr (4, xf45 ad)), (ad 47, .inr (4, xf47 ad)), (ad 49, .inr (4, xf49 ad)), (ad 51, .inr (4, xf51 ad))] H := hP
      have hD : va_D A [(ad 0, .inr (8, xf0 ad)), (ad 44, .inl (cQ, 4, .inr (.inr (.inr (.inr (va_up (va_up (va_up (va_up (fun _ => none) (Int32.toNatClampNeg 0) (some (ad 45))) (Int32.toNatClampNeg 1) (some (ad 47))) (Int32.toNatClampNeg 2) (some (ad 49))) (Int32.toNatClampNeg 3) (some (ad 51)))))))), (ad 45, .inr (4, xf45 ad)), (ad 47, .inr (4, xf47 ad)), (ad 49, .inr (4, xf49 ad)), (ad 51, .inr (4, xf51 ad))] := hD
      refine W.widen (k := 0) (n := 0) (by decide) (by decide) ?_
      obtain rfl : r13 = 0 := hp14
      refine lv_if_ne (tgt := 27) hx hb dX8_sheets_21 (by decide) (fun c => absurd (by decide) c) (fun _ => ?_)
      refine lv_bipush (v := (-6)) hx hb dX8_sheets_24 (by decide) ?_
      have hP9 := hP.sub (ws' := []) [] rfl
      have hD9 := hD.sub (ws' := []) [] (by decide) rfl
      exact z_iret () hx hb hr hlocks hK hP9 hD9 hS hAe hQ rfl (Or.inr (Or.inr ⟨rfl, f7, f8⟩)) dX8_sheets_26
    · have hP : va_P (dC, dI) vwCl [(ad 0, .inr (8, xf0 ad)), (ad 44, .inl (cQ, 4, .inr (.inr (.inr (.inr (va_up (va_up (va_up (va_up (fun _ => none) (Int32.toNatClampNeg 0) (some (ad 45))) (Int32.toNatClampNeg 1) (some (ad 47))) (Int32.toNatClampNeg 2) (some (ad 49))) (Int32.toNatClampNeg 3) (some (ad 51)))))))), (ad 45, .inr (4, xf45 ad)), (ad 47, .inr (4, xf47 ad)), (ad 49, .inr (4, xf49 ad)), (ad 51, .inr (4, xf51 ad))] H := by assumption
      have hD : va_D A [(ad 0, .inr (8, xf0 ad)), (ad 44, .inl (cQ, 4, .inr (.inr (.inr (.inr (va_up (va_up (va_up (va_up (fun _ => none) (Int32.toNatClampNeg 0) (some (ad 45))) (Int32.toNatClampNeg 1) (some (ad 47))) (Int32.toNatClampNeg 2) (some (ad 49))) (Int32.toNatClampNeg 3) (some (ad 51)))))))), (ad 45, .inr (4, xf45 ad)), (ad 47, .inr (4, xf47 ad)), (ad 49, .inr (4, xf49 ad)), (ad 51, .inr (4, xf51 ad))] := by assumption
      refine va_aldq hx hb hK hP 1 5 rfl rfl (z_in (a := 2) (by decide) (by decide) (by decide)) dX8_sheets_15 ?_
      refine W.eq (g2 := F0 m 16 ls [.ref (ad 49)]) rfl ?_
      refine lv_astore_n (lv' := [(2, .ref (ad 49)), (0, .ref (ad 0)), (1, .int 2)]) hx hb dX8_sheets_16 rfl hl (by decide) rfl (fun ls hl => ?_)
      refine lv_aload_n hx hb dX8_sheets_17 rfl (lv_at hl 0 rfl) ?_
      refine z_fini (w' := fun (u15 : Unit) => [(ad 0, .inr (8, xf0 ad)), (ad 44, .inl (cQ, 4, .inr (.inr (.inr (.inr (va_up (va_up (va_up (va_up (fun _ => none) (Int32.toNatClampNeg 0) (some (ad 45))) (Int32.toNatClampNeg 1) (some (ad 47))) (Int32.toNatClampNeg 2) (some (ad 49))) (Int32.toNatClampNeg 3) (some (ad 51)))))))), (ad 45, .inr (4, xf45 ad)), (ad 47, .inr (4, xf47 ad)), (ad 49, .inr (4, xf49 ad)), (ad 51, .inr (4, xf51 ad))]) (va_runV (As := []) (rest := []) ⟨hx, hb, hml, hown, hts⟩ (c_X4_stands_113 l dC dI cB cI cJ cZ cP cQ ad H.size) (cwV 0 hts gX8_sheets_X4_stands rfl rfl rfl (by decide +kernel) ⟨Nat.le_of_ble_eq_true rfl, Nat.le_of_ble_eq_true rfl⟩) (z_pV (ci := 4) hK hP hD zX_nil [4] (by decide) rfl rfl 4 rfl) rfl rfl hl.1 rfl (lv_room (Nat.le_of_ble_eq_true rfl)) dX8_sheets_18 ⟨Nat.le_of_ble_eq_true rfl, Nat.le_of_ble_eq_true rfl⟩) hP hD hS hA [4] [0, 1, 2, 3, 5] [0, 1, 2, 3, 5, 4] rfl rfl (by decide) (by decide) (fun _ => rfl) (by decide) (fun r16 u15 H locs hp17 hP hD hS => ?_)
      have hP : va_P (dC, dI) vwCl [(ad 0, .inr (8, xf0 ad)), (ad 44, .inl (cQ, 4, .inr (.inr (.inr (.inr (va_up (va_up (va_up (va_up (fun _ => none) (Int32.toNatClampNeg 0) (some (ad 45))) (Int32.toNatClampNeg 1) (some (ad 47))) (Int32.toNatClampNeg 2) (some (ad 49))) (Int32.toNatClampNeg 3) (some (ad 51)))))))), (ad 45, .inr (4, xf45 ad)), (ad 47, .inr (4, xf47 ad)), (ad 49, .inr (4, xf49 ad)), (ad 51, .inr (4, xf51 ad))] H := hP
      have hD : va_D A [(ad 0, .inr (8, xf0 ad)), (ad 44, .inl (cQ, 4, .inr (.inr (.inr (.inr (va_up (va_up (va_up (va_up (fun _ => none) (Int32.toNatClampNeg 0) (some (ad 45))) (Int32.toNatClampNeg 1) (some (ad 47))) (Int32.toNatClampNeg 2) (some (ad 49))) (Int32.toNatClampNeg 3) (some (ad 51)))))))), (ad 45, .inr (4, xf45 ad)), (ad 47, .inr (4, xf47 ad)), (ad 49, .inr (4, xf49 ad)), (ad 51, .inr (4, xf51 ad))] := hD
      refine W.widen (k := 0) (n := 0) (by decide) (by decide) ?_
      obtain rfl : r16 = 0 := hp17
      refine lv_if_ne (tgt := 27) hx hb dX8_sheets_21 (by decide) (fun c => absurd (by decide) c) (fun _ => ?_)
      refine lv_bipush (v := (-6)) hx hb dX8_sheets_24 (by decide) ?_
      have hP9 := hP.sub (ws' := []) [] rfl
      have hD9 := hD.sub (ws' := []) [] (by decide) rfl
      exact z_iret () hx hb hr hlocks hK hP9 hD9 hS hAe hQ rfl (Or.inr (Or.inr ⟨rfl, f7, f8⟩)) dX8_sheets_26
    · have hP : va_P (dC, dI) vwCl [(ad 0, .inr (8, xf0 ad)), (ad 44, .inl (cQ, 4, .inr (.inr (.inr (.inr (va_up (va_up (va_up (va_up (fun _ => none) (Int32.toNatClampNeg 0) (some (ad 45))) (Int32.toNatClampNeg 1) (some (ad 47))) (Int32.toNatClampNeg 2) (some (ad 49))) (Int32.toNatClampNeg 3) (some (ad 51)))))))), (ad 45, .inr (4, xf45 ad)), (ad 47, .inr (4, xf47 ad)), (ad 49, .inr (4, xf49 ad)), (ad 51, .inr (4, xf51 ad))] H := by assumption
      have hD : va_D A [(ad 0, .inr (8, xf0 ad)), (ad 44, .inl (cQ, 4, .inr (.inr (.inr (.inr (va_up (va_up (va_up (va_up (fun _ => none) (Int32.toNatClampNeg 0) (some (ad 45))) (Int32.toNatClampNeg 1) (some (ad 47))) (Int32.toNatClampNeg 2) (some (ad 49))) (Int32.toNatClampNeg 3) (some (ad 51)))))))), (ad 45, .inr (4, xf45 ad)), (ad 47, .inr (4, xf47 ad)), (ad 49, .inr (4, xf49 ad)), (ad 51, .inr (4, xf51 ad))] := by assumption
      refine va_aldq hx hb hK hP 1 5 rfl rfl (z_in (a := 3) (by decide) (by decide) (by decide)) dX8_sheets_15 ?_
      refine W.eq (g2 := F0 m 16 ls [.ref (ad 51)]) rfl ?_
      refine lv_astore_n (lv' := [(2, .ref (ad 51)), (0, .ref (ad 0)), (1, .int 3)]) hx hb dX8_sheets_16 rfl hl (by decide) rfl (fun ls hl => ?_)
      refine lv_aload_n hx hb dX8_sheets_17 rfl (lv_at hl 0 rfl) ?_
      refine z_fini (w' := fun (u18 : Unit) => [(ad 0, .inr (8, xf0 ad)), (ad 44, .inl (cQ, 4, .inr (.inr (.inr (.inr (va_up (va_up (va_up (va_up (fun _ => none) (Int32.toNatClampNeg 0) (some (ad 45))) (Int32.toNatClampNeg 1) (some (ad 47))) (Int32.toNatClampNeg 2) (some (ad 49))) (Int32.toNatClampNeg 3) (some (ad 51)))))))), (ad 45, .inr (4, xf45 ad)), (ad 47, .inr (4, xf47 ad)), (ad 49, .inr (4, xf49 ad)), (ad 51, .inr (4, xf51 ad))]) (va_runV (As := []) (rest := []) ⟨hx, hb, hml, hown, hts⟩ (c_X4_stands_114 l dC dI cB cI cJ cZ cP cQ ad H.size) (cwV 0 hts gX8_sheets_X4_stands rfl rfl rfl (by decide +kernel) ⟨Nat.le_of_ble_eq_true rfl, Nat.le_of_ble_eq_true rfl⟩) (z_pV (ci := 4) hK hP hD zX_nil [5] (by decide) rfl rfl 5 rfl) rfl rfl hl.1 rfl (lv_room (Nat.le_of_ble_eq_true rfl)) dX8_sheets_18 ⟨Nat.le_of_ble_eq_true rfl, Nat.le_of_ble_eq_true rfl⟩) hP hD hS hA [5] [0, 1, 2, 3, 4] [0, 1, 2, 3, 4, 5] rfl rfl (by decide) (by decide) (fun _ => rfl) (by decide) (fun r19 u18 H locs hp20 hP hD hS => ?_)
      have hP : va_P (dC, dI) vwCl [(ad 0, .inr (8, xf0 ad)), (ad 44, .inl (cQ, 4, .inr (.inr (.inr (.inr (va_up (va_up (va_up (va_up (fun _ => none) (Int32.toNatClampNeg 0) (some (ad 45))) (Int32.toNatClampNeg 1) (some (ad 47))) (Int32.toNatClampNeg 2) (some (ad 49))) (Int32.toNatClampNeg 3) (some (ad 51)))))))), (ad 45, .inr (4, xf45 ad)), (ad 47, .inr (4, xf47 ad)), (ad 49, .inr (4, xf49 ad)), (ad 51, .inr (4, xf51 ad))] H := hP
      have hD : va_D A [(ad 0, .inr (8, xf0 ad)), (ad 44, .inl (cQ, 4, .inr (.inr (.inr (.inr (va_up (va_up (va_up (va_up (fun _ => none) (Int32.toNatClampNeg 0) (some (ad 45))) (Int32.toNatClampNeg 1) (some (ad 47))) (Int32.toNatClampNeg 2) (some (ad 49))) (Int32.toNatClampNeg 3) (some (ad 51)))))))), (ad 45, .inr (4, xf45 ad)), (ad 47, .inr (4, xf47 ad)), (ad 49, .inr (4, xf49 ad)), (ad 51, .inr (4, xf51 ad))] := hD
      refine W.widen (k := 0) (n := 0) (by decide) (by decide) ?_
      obtain rfl : r19 = 0 := hp20
      refine lv_if_ne (tgt := 27) hx hb dX8_sheets_21 (by decide) (fun c => absurd (by decide) c) (fun _ => ?_)
      refine lv_bipush (v := (-6)) hx hb dX8_sheets_24 (by decide) ?_
      have hP9 := hP.sub (ws' := []) [] rfl
      have hD9 := hD.sub (ws' := []) [] (by decide) rfl
      exact z_iret () hx hb hr hlocks hK hP9 hD9 hS hAe hQ rfl (Or.inr (Or.inr ⟨rfl, f7, f8⟩)) dX8_sheets_26
set_option maxHeartbeats 4000000 in
set_option maxRecDepth 100000 in
theorem c_X8_slotsThatStand_117 (l : Launch) (dC : Nat → ClassId) (dI : Nat → Nat → Nat) (cB cI cJ cZ cP cQ : ClassId) (ad : Nat → Nat) (sz : Nat) : Met l yX8_slotsThatStand wsX8_slotsThatStand ({ frames := 1, cells := 0, slots := 0, locals := 20 } : Room) (zPc [.ref (ad 0)] (dC, dI) (zT cB cI cJ cZ cP cQ) [(ad 0, .inr (8, xf0 ad)), (ad 44, .inl (cQ, 4, .inr (.inr (.inr (.inr (va_up (va_up (va_up (va_up (fun _ => none) (Int32.toNatClampNeg 0) (some (ad 45))) (Int32.toNatClampNeg 1) (some (ad 47))) (Int32.toNatClampNeg 2) (some (ad 49))) (Int32.toNatClampNeg 3) (some (ad 51)))))))), (ad 45, .inr (4, xf45 ad)), (ad 47, .inr (4, xf47 ad)), (ad 49, .inr (4, xf49 ad)), (ad 51, .inr (4, xf51 ad))] sz [] []) (va_Qi (fun r _ => (fun r => r = 0) r) (zB (dC, dI) (zT cB cI cJ cZ cP cQ) (fun _ : Unit => [(ad 0, .inr (8, xf0 ad)), (ad 44, .inl (cQ, 4, .inr (.inr (.inr (.inr (va_up (va_up (va_up (va_up (fun _ => none) (Int32.toNatClampNeg 0) (some (ad 45))) (Int32.toNatClampNeg 1) (some (ad 47))) (Int32.toNatClampNeg 2) (some (ad 49))) (Int32.toNatClampNeg 3) (some (ad 51)))))))), (ad 45, .inr (4, xf45 ad)), (ad 47, .inr (4, xf47 ad)), (ad 49, .inr (4, xf49 ad)), (ad 51, .inr (4, xf51 ad))]) [(ad 0, .inr (8, xf0 ad)), (ad 44, .inl (cQ, 4, .inr (.inr (.inr (.inr (va_up (va_up (va_up (va_up (fun _ => none) (Int32.toNatClampNeg 0) (some (ad 45))) (Int32.toNatClampNeg 1) (some (ad 47))) (Int32.toNatClampNeg 2) (some (ad 49))) (Int32.toNatClampNeg 3) (some (ad 51)))))))), (ad 45, .inr (4, xf45 ad)), (ad 47, .inr (4, xf47 ad)), (ad 49, .inr (4, xf49 ad)), (ad 51, .inr (4, xf51 ad))] sz) (va_A [(ad 0, .inr (8, xf0 ad)), (ad 44, .inl (cQ, 4, .inr (.inr (.inr (.inr (va_up (va_up (va_up (va_up (fun _ => none) (Int32.toNatClampNeg 0) (some (ad 45))) (Int32.toNatClampNeg 1) (some (ad 47))) (Int32.toNatClampNeg 2) (some (ad 49))) (Int32.toNatClampNeg 3) (some (ad 51)))))))), (ad 45, .inr (4, xf45 ad)), (ad 47, .inr (4, xf47 ad)), (ad 49, .inr (4, xf49 ad)), (ad 51, .inr (4, xf51 ad))] sz)) 0 0 (va_A [(ad 0, .inr (8, xf0 ad)), (ad 44, .inl (cQ, 4, .inr (.inr (.inr (.inr (va_up (va_up (va_up (va_up (fun _ => none) (Int32.toNatClampNeg 0) (some (ad 45))) (Int32.toNatClampNeg 1) (some (ad 47))) (Int32.toNatClampNeg 2) (some (ad 49))) (Int32.toNatClampNeg 3) (some (ad 51)))))))), (ad 45, .inr (4, xf45 ad)), (ad 47, .inr (4, xf47 ad)), (ad 49, .inr (4, xf49 ad)), (ad 51, .inr (4, xf51 ad))] sz) := by
  refine z_enter (cc := cX8_slotsThatStand) (maxL := 3) (ret := (some .int)) (by decide) rfl (Nat.le_of_ble_eq_true rfl) ?_
  intro p e s m below meth c A ls Q H locs hx hb hr hml hown hts hlocks hin hK hP hD hA hX hS hAe hQ hl
  have hown : s.vm.findClass RX8 = some m.cls := hown
  have hi8 : ∀ w ∈ wsX80, w ∈ wsX8_slotsThatStand := fun w h => List.mem_cons_of_mem _ (List.mem_append_left _ (List.mem_append_right _ h))
  have hk0 := hts (.fieldLink RX8 65 "MonthPush" "slots" "[LMonthPush$Row;") (by decide +kernel)
  have hl : lv_has ls 3 [(0, .ref (ad 0))] := hl
  refine lv_iconst (v := 0) hx hb dX8_slotsThatStand_0 (by decide) ?_
  refine lv_istore_n (lv' := [(1, .int 0), (0, .ref (ad 0))]) hx hb dX8_slotsThatStand_1 rfl hl (by decide) rfl (fun ls hl => ?_)
  refine lv_iconst (v := 0) hx hb dX8_slotsThatStand_2 (by decide) ?_
  refine lv_istore_n (lv' := [(2, .int 0), (1, .int 0), (0, .ref (ad 0))]) hx hb dX8_slotsThatStand_3 rfl hl (by decide) rfl (fun ls hl => ?_)
  refine lv_iload_n hx hb dX8_slotsThatStand_4 rfl (lv_at hl 0 rfl) ?_
  refine lv_iconst (v := 4) hx hb dX8_slotsThatStand_5 (by decide) ?_
  refine lv_icmp_ge (tgt := 30) hx hb dX8_slotsThatStand_6 (by decide) (fun c => absurd c (by decide)) (fun _ => ?_)
  refine lv_aload_n hx hb dX8_slotsThatStand_9 rfl (lv_at hl 2 rfl) ?_
  refine va_get (D := (dC, dI)) (ci := 8) (v := .ref (ad 44)) (C := RX8) (T := TX8) (N := 10) hx hb hts hi8 hown hK hP 0 rfl rfl 9 (by decide) hk0 (fun _ h9 => h9) rfl dX8_slotsThatStand_10 ?_
  refine lv_iload_n hx hb dX8_slotsThatStand_13 rfl (lv_at hl 0 rfl) ?_
  refine va_aldq hx hb hK hP 1 5 rfl rfl (z_in (a := 0) (by decide) (by decide) (by decide)) dX8_slotsThatStand_14 ?_
  refine W.eq (g2 := F0 m 15 ls [.ref (ad 45)]) rfl ?_
  refine z_fini (w' := fun (u1 : Unit) => [(ad 0, .inr (8, xf0 ad)), (ad 44, .inl (cQ, 4, .inr (.inr (.inr (.inr (va_up (va_up (va_up (va_up (fun _ => none) (Int32.toNatClampNeg 0) (some (ad 45))) (Int32.toNatClampNeg 1) (some (ad 47))) (Int32.toNatClampNeg 2) (some (ad 49))) (Int32.toNatClampNeg 3) (some (ad 51)))))))), (ad 45, .inr (4, xf45 ad)), (ad 47, .inr (4, xf47 ad)), (ad 49, .inr (4, xf49 ad)), (ad 51, .inr (4, xf51 ad))]) (va_runV (As := []) (rest := []) ⟨hx, hb, hml, hown, hts⟩ (c_X4_stands_111 l dC dI cB cI cJ cZ cP cQ ad H.size) (cwV 0 hts gX8_slotsThatStand_X4_stands rfl rfl rfl (by decide +kernel) ⟨Nat.le_of_ble_eq_true rfl, Nat.le_of_ble_eq_true rfl⟩) (z_pV (ci := 4) hK hP hD zX_nil [2] (by decide) rfl rfl 2 rfl) rfl rfl hl.1 rfl (lv_room (Nat.le_of_ble_eq_true rfl)) dX8_slotsThatStand_15 ⟨Nat.le_of_ble_eq_true rfl, Nat.le_of_ble_eq_true rfl⟩) hP hD hS hA [2] [0, 1, 3, 4, 5] [0, 1, 5, 2, 3, 4] rfl rfl (by decide) (by decide) (fun _ => rfl) (by decide) (fun r2 u1 H locs hp3 hP hD hS => ?_)
  have hP : va_P (dC, dI) vwCl [(ad 0, .inr (8, xf0 ad)), (ad 44, .inl (cQ, 4, .inr (.inr (.inr (.inr (va_up (va_up (va_up (va_up (fun _ => none) (Int32.toNatClampNeg 0) (some (ad 45))) (Int32.toNatClampNeg 1) (some (ad 47))) (Int32.toNatClampNeg 2) (some (ad 49))) (Int32.toNatClampNeg 3) (some (ad 51)))))))), (ad 45, .inr (4, xf45 ad)), (ad 47, .inr (4, xf47 ad)), (ad 49, .inr (4, xf49 ad)), (ad 51, .inr (4, xf51 ad))] H := hP
  have hD : va_D A [(ad 0, .inr (8, xf0 ad)), (ad 44, .inl (cQ, 4, .inr (.inr (.inr (.inr (va_up (va_up (va_up (va_up (fun _ => none) (Int32.toNatClampNeg 0) (some (ad 45))) (Int32.toNatClampNeg 1) (some (ad 47))) (Int32.toNatClampNeg 2) (some (ad 49))) (Int32.toNatClampNeg 3) (some (ad 51)))))))), (ad 45, .inr (4, xf45 ad)), (ad 47, .inr (4, xf47 ad)), (ad 49, .inr (4, xf49 ad)), (ad 51, .inr (4, xf51 ad))] := hD
  refine W.widen (k := 0) (n := 0) (by decide) (by decide) ?_
  obtain rfl : r2 = 0 := hp3
  refine lv_if_eq (tgt := 24) hx hb dX8_slotsThatStand_18 (by decide) (fun _ => ?_) (fun c => absurd (by decide) c)
  refine lv_iinc (v := 1) (lv' := [(2, .int 1), (1, .int 0), (0, .ref (ad 0))]) hx hb dX8_slotsThatStand_24 hl (k := 0) rfl (by decide) (by decide) rfl (fun ls hl => ?_)
  refine lv_goto (tgt := 4) hx hb dX8_slotsThatStand_27 (by decide) ?_
  refine lv_iload_n hx hb dX8_slotsThatStand_4 rfl (lv_at hl 0 rfl) ?_
  refine lv_iconst (v := 4) hx hb dX8_slotsThatStand_5 (by decide) ?_
  refine lv_icmp_ge (tgt := 30) hx hb dX8_slotsThatStand_6 (by decide) (fun c => absurd c (by decide)) (fun _ => ?_)
  refine lv_aload_n hx hb dX8_slotsThatStand_9 rfl (lv_at hl 2 rfl) ?_
  refine va_get (D := (dC, dI)) (ci := 8) (v := .ref (ad 44)) (C := RX8) (T := TX8) (N := 10) hx hb hts hi8 hown hK hP 0 rfl rfl 9 (by decide) hk0 (fun _ h9 => h9) rfl dX8_slotsThatStand_10 ?_
  refine lv_iload_n hx hb dX8_slotsThatStand_13 rfl (lv_at hl 0 rfl) ?_
  refine va_aldq hx hb hK hP 1 5 rfl rfl (z_in (a := 1) (by decide) (by decide) (by decide)) dX8_slotsThatStand_14 ?_
  refine W.eq (g2 := F0 m 15 ls [.ref (ad 47)]) rfl ?_
  refine z_fini (w' := fun (u4 : Unit) => [(ad 0, .inr (8, xf0 ad)), (ad 44, .inl (cQ, 4, .inr (.inr (.inr (.inr (va_up (va_up (va_up (va_up (fun _ => none) (Int32.toNatClampNeg 0) (some (ad 45))) (Int32.toNatClampNeg 1) (some (ad 47))) (Int32.toNatClampNeg 2) (some (ad 49))) (Int32.toNatClampNeg 3) (some (ad 51)))))))), (ad 45, .inr (4, xf45 ad)), (ad 47, .inr (4, xf47 ad)), (ad 49, .inr (4, xf49 ad)), (ad 51, .inr (4, xf51 ad))]) (va_runV (As := []) (rest := []) ⟨hx, hb, hml, hown, hts⟩ (c_X4_stands_112 l dC dI cB cI cJ cZ cP cQ ad H.size) (cwV 0 hts gX8_slotsThatStand_X4_stands rfl rfl rfl (by decide +kernel) ⟨Nat.le_of_ble_eq_true rfl, Nat.le_of_ble_eq_true rfl⟩) (z_pV (ci := 4) hK hP hD zX_nil [3] (by decide) rfl rfl 3 rfl) rfl rfl hl.1 rfl (lv_room (Nat.le_of_ble_eq_true rfl)) dX8_slotsThatStand_15 ⟨Nat.le_of_ble_eq_true rfl, Nat.le_of_ble_eq_true rfl⟩) hP hD hS hA [3] [0, 1, 2, 4, 5] [0, 1, 2, 5, 3, 4] rfl rfl (by decide) (by decide) (fun _ => rfl) (by decide) (fun r5 u4 H locs hp6 hP hD hS => ?_)
  have hP : va_P (dC, dI) vwCl [(ad 0, .inr (8, xf0 ad)), (ad 44, .inl (cQ, 4, .inr (.inr (.inr (.inr (va_up (va_up (va_up (va_up (fun _ => none) (Int32.toNatClampNeg 0) (some (ad 45))) (Int32.toNatClampNeg 1) (some (ad 47))) (Int32.toNatClampNeg 2) (some (ad 49))) (Int32.toNatClampNeg 3) (some (ad 51)))))))), (ad 45, .inr (4, xf45 ad)), (ad 47, .inr (4, xf47 ad)), (ad 49, .inr (4, xf49 ad)), (ad 51, .inr (4, xf51 ad))] H := hP
  have hD : va_D A [(ad 0, .inr (8, xf0 ad)), (ad 44, .inl (cQ, 4, .inr (.inr (.inr (.inr (va_up (va_up (va_up (va_up (fun _ => none) (Int32.toNatClampNeg 0) (some (ad 45))) (Int32.toNatClampNeg 1) (some (ad 47))) (Int32.toNatClampNeg 2) (some (ad 49))) (Int32.toNatClampNeg 3) (some (ad 51)))))))), (ad 45, .inr (4, xf45 ad)), (ad 47, .inr (4, xf47 ad)), (ad 49, .inr (4, xf49 ad)), (ad 51, .inr (4, xf51 ad))] := hD
  refine W.widen (k := 0) (n := 0) (by decide) (by decide) ?_
  obtain rfl : r5 = 0 := hp6
  refine lv_if_eq (tgt := 24) hx hb dX8_slotsThatStand_18 (by decide) (fun _ => ?_) (fun c => absurd (by decide) c)
  refine lv_iinc (v := 2) (lv' := [(2, .int 2), (1, .int 0), (0, .ref (ad 0))]) hx hb dX8_slotsThatStand_24 hl (k := 0) rfl (by decide) (by decide) rfl (fun ls hl => ?_)
  refine lv_goto (tgt := 4) hx hb dX8_slotsThatStand_27 (by decide) ?_
  refine lv_iload_n hx hb dX8_slotsThatStand_4 rfl (lv_at hl 0 rfl) ?_
  refine lv_iconst (v := 4) hx hb dX8_slotsThatStand_5 (by decide) ?_
  refine lv_icmp_ge (tgt := 30) hx hb dX8_slotsThatStand_6 (by decide) (fun c => absurd c (by decide)) (fun _ => ?_)
  refine lv_aload_n hx hb dX8_slotsThatStand_9 rfl (lv_at hl 2 rfl) ?_
  refine va_get (D := (dC, dI)) (ci := 8) (v := .ref (ad 44)) (C := RX8) (T := TX8) (N := 10) hx hb hts hi8 hown hK hP 0 rfl rfl 9 (by decide) hk0 (fun _ h9 => h9) rfl dX8_slotsThatStand_10 ?_
  refine lv_iload_n hx hb dX8_slotsThatStand_13 rfl (lv_at hl 0 rfl) ?_
  refine va_aldq hx hb hK hP 1 5 rfl rfl (z_in (a := 2) (by decide) (by decide) (by decide)) dX8_slotsThatStand_14 ?_
  refine W.eq (g2 := F0 m 15 ls [.ref (ad 49)]) rfl ?_
  refine z_fini (w' := fun (u7 : Unit) => [(ad 0, .inr (8, xf0 ad)), (ad 44, .inl (cQ, 4, .inr (.inr (.inr (.inr (va_up (va_up (va_up (va_up (fun _ => none) (Int32.toNatClampNeg 0) (some (ad 45))) (Int32.toNatClampNeg 1) (some (ad 47))) (Int32.toNatClampNeg 2) (some (ad 49))) (Int32.toNatClampNeg 3) (some (ad 51)))))))), (ad 45, .inr (4, xf45 ad)), (ad 47, .inr (4, xf47 ad)), (ad 49, .inr (4, xf49 ad)), (ad 51, .inr (4, xf51 ad))]) (va_runV (As := []) (rest := []) ⟨hx, hb, hml, hown, hts⟩ (c_X4_stands_113 l dC dI cB cI cJ cZ cP cQ ad H.size) (cwV 0 hts gX8_slotsThatStand_X4_stands rfl rfl rfl (by decide +kernel) ⟨Nat.le_of_ble_eq_true rfl, Nat.le_of_ble_eq_true rfl⟩) (z_pV (ci := 4) hK hP hD zX_nil [4] (by decide) rfl rfl 4 rfl) rfl rfl hl.1 rfl (lv_room (Nat.le_of_ble_eq_true rfl)) dX8_slotsThatStand_15 ⟨Nat.le_of_ble_eq_true rfl, Nat.le_of_ble_eq_true rfl⟩) hP hD hS hA [4] [0, 1, 2, 3, 5] [0, 1, 2, 3, 5, 4] rfl rfl (by decide) (by decide) (fun _ => rfl) (by decide) (fun r8 u7 H locs hp9 hP hD hS => ?_)
  have hP : va_P (dC, dI) vwCl [(ad 0, .inr (8, xf0 ad)), (ad 44, .inl (cQ, 4, .inr (.inr (.inr (.inr (va_up (va_up (va_up (va_up (fun _ => none) (Int32.toNatClampNeg 0) (some (ad 45))) (Int32.toNatClampNeg 1) (some (ad 47))) (Int32.toNatClampNeg 2) (some (ad 49))) (Int32.toNatClampNeg 3) (some (ad 51)))))))), (ad 45, .inr (4, xf45 ad)), (ad 47, .inr (4, xf47 ad)), (ad 49, .inr (4, xf49 ad)), (ad 51, .inr (4, xf51 ad))] H := hP
  have hD : va_D A [(ad 0, .inr (8, xf0 ad)), (ad 44, .inl (cQ, 4, .inr (.inr (.inr (.inr (va_up (va_up (va_up (va_up (fun _ => none) (Int32.toNatClampNeg 0) (some (ad 45))) (Int32.toNatClampNeg 1) (some (ad 47))) (Int32.toNatClampNeg 2) (some (ad 49))) (Int32.toNatClampNeg 3) (some (ad 51)))))))), (ad 45, .inr (4, xf45 ad)), (ad 47, .inr (4, xf47 ad)), (ad 49, .inr (4, xf49 ad)), (ad 51, .inr (4, xf51 ad))] := hD
  refine W.widen (k := 0) (n := 0) (by decide) (by decide) ?_
  obtain rfl : r8 = 0 := hp9
  refine lv_if_eq (tgt := 24) hx hb dX8_slotsThatStand_18 (by decide) (fun _ => ?_) (fun c => absurd (by decide) c)
  refine lv_iinc (v := 3) (lv' := [(2, .int 3), (1, .int 0), (0, .ref (ad 0))]) hx hb dX8_slotsThatStand_24 hl (k := 0) rfl (by decide) (by decide) rfl (fun ls hl => ?_)
  refine lv_goto (tgt := 4) hx hb dX8_slotsThatStand_27 (by decide) ?_
  refine lv_iload_n hx hb dX8_slotsThatStand_4 rfl (lv_at hl 0 rfl) ?_
  refine lv_iconst (v := 4) hx hb dX8_slotsThatStand_5 (by decide) ?_
  refine lv_icmp_ge (tgt := 30) hx hb dX8_slotsThatStand_6 (by decide) (fun c => absurd c (by decide)) (fun _ => ?_)
  refine lv_aload_n hx hb dX8_slotsThatStand_9 rfl (lv_at hl 2 rfl) ?_
  refine va_get (D := (dC, dI)) (ci := 8) (v := .ref (ad 44)) (C := RX8) (T := TX8) (N := 10) hx hb hts hi8 hown hK hP 0 rfl rfl 9 (by decide) hk0 (fun _ h9 => h9) rfl dX8_slotsThatStand_10 ?_
  refine lv_iload_n hx hb dX8_slotsThatStand_13 rfl (lv_at hl 0 rfl) ?_
  refine va_aldq hx hb hK hP 1 5 rfl rfl (z_in (a := 3) (by decide) (by decide) (by decide)) dX8_slotsThatStand_14 ?_
  refine W.eq (g2 := F0 m 15 ls [.ref (ad 51)]) rfl ?_
  refine z_fini (w' := fun (u10 : Unit) => [(ad 0, .inr (8, xf0 ad)), (ad 44, .inl (cQ, 4, .inr (.inr (.inr (.inr (va_up (va_up (va_up (va_up (fun _ => none) (Int32.toNatClampNeg 0) (some (ad 45))) (Int32.toNatClampNeg 1) (some (ad 47))) (Int32.toNatClampNeg 2) (some (ad 49))) (Int32.toNatClampNeg 3) (some (ad 51)))))))), (ad 45, .inr (4, xf45 ad)), (ad 47, .inr (4, xf47 ad)), (ad 49, .inr (4, xf49 ad)), (ad 51, .inr (4, xf51 ad))]) (va_runV (As := []) (rest := []) ⟨hx, hb, hml, hown, hts⟩ (c_X4_stands_114 l dC dI cB cI cJ cZ cP cQ ad H.size) (cwV 0 hts gX8_slotsThatStand_X4_stands rfl rfl rfl (by decide +kernel) ⟨Nat.le_of_ble_eq_true rfl, Nat.le_of_ble_eq_true rfl⟩) (z_pV (ci := 4) hK hP hD zX_nil [5] (by decide) rfl rfl 5 rfl) rfl rfl hl.1 rfl (lv_room (Nat.le_of_ble_eq_true rfl)) dX8_slotsThatStand_15 ⟨Nat.le_of_ble_eq_true rfl, Nat.le_of_ble_eq_true rfl⟩) hP hD hS hA [5] [0, 1, 2, 3, 4] [0, 1, 2, 3, 4, 5] rfl rfl (by decide) (by decide) (fun _ => rfl) (by decide) (fun r11 u10 H locs hp12 hP hD hS => ?_)
  have hP : va_P (dC, dI) vwCl [(ad 0, .inr (8, xf0 ad)), (ad 44, .inl (cQ, 4, .inr (.inr (.inr (.inr (va_up (va_up (va_up (va_up (fun _ => none) (Int32.toNatClampNeg 0) (some (ad 45))) (Int32.toNatClampNeg 1) (some (ad 47))) (Int32.toNatClampNeg 2) (some (ad 49))) (Int32.toNatClampNeg 3) (some (ad 51)))))))), (ad 45, .inr (4, xf45 ad)), (ad 47, .inr (4, xf47 ad)), (ad 49, .inr (4, xf49 ad)), (ad 51, .inr (4, xf51 ad))] H := hP
  have hD : va_D A [(ad 0, .inr (8, xf0 ad)), (ad 44, .inl (cQ, 4, .inr (.inr (.inr (.inr (va_up (va_up (va_up (va_up (fun _ => none) (Int32.toNatClampNeg 0) (some (ad 45))) (Int32.toNatClampNeg 1) (some (ad 47))) (Int32.toNatClampNeg 2) (some (ad 49))) (Int32.toNatClampNeg 3) (some (ad 51)))))))), (ad 45, .inr (4, xf45 ad)), (ad 47, .inr (4, xf47 ad)), (ad 49, .inr (4, xf49 ad)), (ad 51, .inr (4, xf51 ad))] := hD
  refine W.widen (k := 0) (n := 0) (by decide) (by decide) ?_
  obtain rfl : r11 = 0 := hp12
  refine lv_if_eq (tgt := 24) hx hb dX8_slotsThatStand_18 (by decide) (fun _ => ?_) (fun c => absurd (by decide) c)
  refine lv_iinc (v := 4) (lv' := [(2, .int 4), (1, .int 0), (0, .ref (ad 0))]) hx hb dX8_slotsThatStand_24 hl (k := 0) rfl (by decide) (by decide) rfl (fun ls hl => ?_)
  refine lv_goto (tgt := 4) hx hb dX8_slotsThatStand_27 (by decide) ?_
  refine lv_iload_n hx hb dX8_slotsThatStand_4 rfl (lv_at hl 0 rfl) ?_
  refine lv_iconst (v := 4) hx hb dX8_slotsThatStand_5 (by decide) ?_
  refine lv_icmp_ge (tgt := 30) hx hb dX8_slotsThatStand_6 (by decide) (fun _ => ?_) (fun c => absurd (by decide) c)
  refine lv_iload_n hx hb dX8_slotsThatStand_30 rfl (lv_at hl 1 rfl) ?_
  exact z_iret () hx hb hr hlocks hK hP hD hS hAe hQ rfl rfl dX8_slotsThatStand_31
set_option maxHeartbeats 4000000 in
set_option maxRecDepth 100000 in
theorem c_X8_count_117 (l : Launch) (dC : Nat → ClassId) (dI : Nat → Nat → Nat) (cB cI cJ cZ cP cQ : ClassId) (ad : Nat → Nat) (sz : Nat) (p1 : Int32) : Met l yX8_count wsX8_count ({ frames := 2, cells := 0, slots := 0, locals := 42 } : Room) (zPc [.ref (ad 0), .int p1] (dC, dI) (zT cB cI cJ cZ cP cQ) [(ad 0, .inr (8, xf0 ad)), (ad 1, .inr (7, xf1 ad)), (ad 3, .inr (3, xf3 ad)), (ad 23, .inr (5, xf23 ad)), (ad 44, .inl (cQ, 4, .inr (.inr (.inr (.inr (va_up (va_up (va_up (va_up (fun _ => none) (Int32.toNatClampNeg 0) (some (ad 45))) (Int32.toNatClampNeg 1) (some (ad 47))) (Int32.toNatClampNeg 2) (some (ad 49))) (Int32.toNatClampNeg 3) (some (ad 51)))))))), (ad 45, .inr (4, xf45 ad)), (ad 47, .inr (4, xf47 ad)), (ad 49, .inr (4, xf49 ad)), (ad 51, .inr (4, xf51 ad))] sz [] []) (va_Qi (fun r _ => (fun r => (r = 0 ∧ p1.toInt = 0) ∨ (r = 0 ∧ p1.toInt = 1) ∨ (r = 0 ∧ p1.toInt = 2) ∨ (r = 0 ∧ p1.toInt = 3) ∨ (r = 0 ∧ p1.toInt = 4) ∨ (r = 0 ∧ p1.toInt = 5) ∨ (r = 0 ∧ p1.toInt = 6) ∨ (r = 0 ∧ p1.toInt = 7) ∨ (r = (-1) ∧ (p1.toInt < 0 ∨ 7 < p1.toInt))) r) (zB (dC, dI) (zT cB cI cJ cZ cP cQ) (fun _ : Unit => []) [(ad 0, .inr (8, xf0 ad)), (ad 1, .inr (7, xf1 ad)), (ad 3, .inr (3, xf3 ad)), (ad 23, .inr (5, xf23 ad)), (ad 44, .inl (cQ, 4, .inr (.inr (.inr (.inr (va_up (va_up (va_up (va_up (fun _ => none) (Int32.toNatClampNeg 0) (some (ad 45))) (Int32.toNatClampNeg 1) (some (ad 47))) (Int32.toNatClampNeg 2) (some (ad 49))) (Int32.toNatClampNeg 3) (some (ad 51)))))))), (ad 45, .inr (4, xf45 ad)), (ad 47, .inr (4, xf47 ad)), (ad 49, .inr (4, xf49 ad)), (ad 51, .inr (4, xf51 ad))] sz) (va_A [(ad 0, .inr (8, xf0 ad)), (ad 1, .inr (7, xf1 ad)), (ad 3, .inr (3, xf3 ad)), (ad 23, .inr (5, xf23 ad)), (ad 44, .inl (cQ, 4, .inr (.inr (.inr (.inr (va_up (va_up (va_up (va_up (fun _ => none) (Int32.toNatClampNeg 0) (some (ad 45))) (Int32.toNatClampNeg 1) (some (ad 47))) (Int32.toNatClampNeg 2) (some (ad 49))) (Int32.toNatClampNeg 3) (some (ad 51)))))))), (ad 45, .inr (4, xf45 ad)), (ad 47, .inr (4, xf47 ad)), (ad 49, .inr (4, xf49 ad)), (ad 51, .inr (4, xf51 ad))] sz)) 0 0 (va_A [(ad 0, .inr (8, xf0 ad)), (ad 1, .inr (7, xf1 ad)), (ad 3, .inr (3, xf3 ad)), (ad 23, .inr (5, xf23 ad)), (ad 44, .inl (cQ, 4, .inr (.inr (.inr (.inr (va_up (va_up (va_up (va_up (fun _ => none) (Int32.toNatClampNeg 0) (some (ad 45))) (Int32.toNatClampNeg 1) (some (ad 47))) (Int32.toNatClampNeg 2) (some (ad 49))) (Int32.toNatClampNeg 3) (some (ad 51)))))))), (ad 45, .inr (4, xf45 ad)), (ad 47, .inr (4, xf47 ad)), (ad 49, .inr (4, xf49 ad)), (ad 51, .inr (4, xf51 ad))] sz) := by
  refine z_enter (cc := cX8_count) (maxL := 2) (ret := (some .int)) (by decide) rfl (Nat.le_of_ble_eq_true rfl) ?_
  intro p e s m below meth c A ls Q H locs hx hb hr hml hown hts hlocks hin hK hP hD hA hX hS hAe hQ hl
  have hown : s.vm.findClass RX8 = some m.cls := hown
  have hi3 : ∀ w ∈ wsX30, w ∈ wsX8_count := fun w h => List.mem_cons_of_mem _ (List.mem_append_left _ (List.mem_append_left _ (List.mem_append_left _ (List.mem_append_right _ h))))
  have hi5 : ∀ w ∈ wsX50, w ∈ wsX8_count := fun w h => List.mem_cons_of_mem _ (List.mem_append_left _ (List.mem_append_left _ (List.mem_append_right _ h)))
  have hi7 : ∀ w ∈ wsX70, w ∈ wsX8_count := fun w h => List.mem_cons_of_mem _ (List.mem_append_left _ (List.mem_append_right _ h))
  have hi8 : ∀ w ∈ wsX80, w ∈ wsX8_count := fun w h => List.mem_cons_of_mem _ (List.mem_append_left _ (List.mem_append_left _ (List.mem_append_left _ (List.mem_append_left _ (List.mem_append_right _ h)))))
  have hk0 := hts (.fieldLink RX8 19 "MonthPush" "now" "LMonthPush$Land;") (by decide +kernel)
  have hk1 := hts (.fieldLink RX8 134 "MonthPush$Land" "laws" "I") (by decide +kernel)
  have hk2 := hts (.fieldLink RX8 371 "MonthPush$Land" "sorts" "I") (by decide +kernel)
  have hk3 := hts (.fieldLink RX8 29 "MonthPush" "all" "LMonthPush$Sheets;") (by decide +kernel)
  have hk4 := hts (.fieldLink RX8 127 "MonthPush$Sheets" "n" "I") (by decide +kernel)
  have hk5 := hts (.fieldLink RX8 85 "MonthPush$Land" "lines" "I") (by decide +kernel)
  have hk6 := hts (.fieldLink RX8 374 "MonthPush$Land" "parts" "I") (by decide +kernel)
  have hk7 := hts (.fieldLink RX8 154 "MonthPush$Land" "noise" "I") (by decide +kernel)
  have hk8 := hts (.fieldLink RX8 10 "MonthPush" "tape" "LMonthPush$Tape;") (by decide +kernel)
  have hk9 := hts (.fieldLink RX8 70 "MonthPush$Tape" "length" "I") (by decide +kernel)
  have hl : lv_has ls 2 [(0, .ref (ad 0)), (1, .int p1)] := hl
  refine lv_iload_n hx hb dX8_count_0 rfl (lv_at hl 1 rfl) ?_
  rcases (show p1.toInt = 0 ∨ p1.toInt = 1 ∨ p1.toInt = 2 ∨ p1.toInt = 3 ∨ p1.toInt = 4 ∨ p1.toInt = 5 ∨ p1.toInt = 6 ∨ p1.toInt = 7 ∨ (p1.toInt < 0 ∨ 7 < p1.toInt) by omega) with f1 | f1 | f1 | f1 | f1 | f1 | f1 | f1 | f1
  · refine lv_tableIn (off := 47) (tgt := 48) hx hb dX8_count_1 (by rw [f1]; decide) (by rw [f1]; decide) (by rw [f1]; decide) (by decide) ?_
    refine lv_aload_n hx hb dX8_count_48 rfl (lv_at hl 0 rfl) ?_
    refine va_get (D := (dC, dI)) (ci := 8) (v := .ref (ad 3)) (C := RX8) (T := TX8) (N := 10) hx hb hts hi8 hown hK hP 0 rfl rfl 1 (by decide) hk0 (fun _ h9 => h9) rfl dX8_count_49 ?_
    refine va_get (D := (dC, dI)) (ci := 3) (v := .int 0) (C := RX3) (T := TX3) (N := 16) hx hb hts hi3 hown hK hP 2 rfl rfl 1 (by decide) hk1 (fun _ h9 => h9) rfl dX8_count_52 ?_
    have hP9 := hP.sub (ws' := []) [] rfl
    have hD9 := hD.sub (ws' := []) [] (by decide) rfl
    exact z_iret () hx hb hr hlocks hK hP9 hD9 hS hAe hQ rfl (Or.inl (⟨rfl, f1⟩)) dX8_count_55
  · refine lv_tableIn (off := 55) (tgt := 56) hx hb dX8_count_1 (by rw [f1]; decide) (by rw [f1]; decide) (by rw [f1]; decide) (by decide) ?_
    refine lv_aload_n hx hb dX8_count_56 rfl (lv_at hl 0 rfl) ?_
    refine va_get (D := (dC, dI)) (ci := 8) (v := .ref (ad 3)) (C := RX8) (T := TX8) (N := 10) hx hb hts hi8 hown hK hP 0 rfl rfl 1 (by decide) hk0 (fun _ h9 => h9) rfl dX8_count_57 ?_
    refine va_get (D := (dC, dI)) (ci := 3) (v := .int 0) (C := RX3) (T := TX3) (N := 16) hx hb hts hi3 hown hK hP 2 rfl rfl 2 (by decide) hk2 (fun _ h9 => h9) rfl dX8_count_60 ?_
    have hP9 := hP.sub (ws' := []) [] rfl
    have hD9 := hD.sub (ws' := []) [] (by decide) rfl
    exact z_iret () hx hb hr hlocks hK hP9 hD9 hS hAe hQ rfl (Or.inr (Or.inl ⟨rfl, f1⟩)) dX8_count_63
  · refine lv_tableIn (off := 63) (tgt := 64) hx hb dX8_count_1 (by rw [f1]; decide) (by rw [f1]; decide) (by rw [f1]; decide) (by decide) ?_
    refine lv_aload_n hx hb dX8_count_64 rfl (lv_at hl 0 rfl) ?_
    refine va_get (D := (dC, dI)) (ci := 8) (v := .ref (ad 23)) (C := RX8) (T := TX8) (N := 10) hx hb hts hi8 hown hK hP 0 rfl rfl 3 (by decide) hk3 (fun _ h9 => h9) rfl dX8_count_65 ?_
    refine va_get (D := (dC, dI)) (ci := 5) (v := .int 0) (C := RX5) (T := TX5) (N := 7) hx hb hts hi5 hown hK hP 3 rfl rfl 0 (by decide) hk4 (fun _ h9 => h9) rfl dX8_count_68 ?_
    have hP9 := hP.sub (ws' := []) [] rfl
    have hD9 := hD.sub (ws' := []) [] (by decide) rfl
    exact z_iret () hx hb hr hlocks hK hP9 hD9 hS hAe hQ rfl (Or.inr (Or.inr (Or.inl ⟨rfl, f1⟩))) dX8_count_71
  · refine lv_tableIn (off := 71) (tgt := 72) hx hb dX8_count_1 (by rw [f1]; decide) (by rw [f1]; decide) (by rw [f1]; decide) (by decide) ?_
    refine lv_aload_n hx hb dX8_count_72 rfl (lv_at hl 0 rfl) ?_
    refine va_get (D := (dC, dI)) (ci := 8) (v := .ref (ad 3)) (C := RX8) (T := TX8) (N := 10) hx hb hts hi8 hown hK hP 0 rfl rfl 1 (by decide) hk0 (fun _ h9 => h9) rfl dX8_count_73 ?_
    refine va_get (D := (dC, dI)) (ci := 3) (v := .int 0) (C := RX3) (T := TX3) (N := 16) hx hb hts hi3 hown hK hP 2 rfl rfl 0 (by decide) hk5 (fun _ h9 => h9) rfl dX8_count_76 ?_
    have hP9 := hP.sub (ws' := []) [] rfl
    have hD9 := hD.sub (ws' := []) [] (by decide) rfl
    exact z_iret () hx hb hr hlocks hK hP9 hD9 hS hAe hQ rfl (Or.inr (Or.inr (Or.inr (Or.inl ⟨rfl, f1⟩)))) dX8_count_79
  · refine lv_tableIn (off := 79) (tgt := 80) hx hb dX8_count_1 (by rw [f1]; decide) (by rw [f1]; decide) (by rw [f1]; decide) (by decide) ?_
    refine lv_aload_n hx hb dX8_count_80 rfl (lv_at hl 0 rfl) ?_
    refine va_get (D := (dC, dI)) (ci := 8) (v := .ref (ad 3)) (C := RX8) (T := TX8) (N := 10) hx hb hts hi8 hown hK hP 0 rfl rfl 1 (by decide) hk0 (fun _ h9 => h9) rfl dX8_count_81 ?_
    refine va_get (D := (dC, dI)) (ci := 3) (v := .int 0) (C := RX3) (T := TX3) (N := 16) hx hb hts hi3 hown hK hP 2 rfl rfl 4 (by decide) hk6 (fun _ h9 => h9) rfl dX8_count_84 ?_
    have hP9 := hP.sub (ws' := []) [] rfl
    have hD9 := hD.sub (ws' := []) [] (by decide) rfl
    exact z_iret () hx hb hr hlocks hK hP9 hD9 hS hAe hQ rfl (Or.inr (Or.inr (Or.inr (Or.inr (Or.inl ⟨rfl, f1⟩))))) dX8_count_87
  · refine lv_tableIn (off := 87) (tgt := 88) hx hb dX8_count_1 (by rw [f1]; decide) (by rw [f1]; decide) (by rw [f1]; decide) (by decide) ?_
    refine lv_aload_n hx hb dX8_count_88 rfl (lv_at hl 0 rfl) ?_
    refine va_get (D := (dC, dI)) (ci := 8) (v := .ref (ad 3)) (C := RX8) (T := TX8) (N := 10) hx hb hts hi8 hown hK hP 0 rfl rfl 1 (by decide) hk0 (fun _ h9 => h9) rfl dX8_count_89 ?_
    refine va_get (D := (dC, dI)) (ci := 3) (v := .int 0) (C := RX3) (T := TX3) (N := 16) hx hb hts hi3 hown hK hP 2 rfl rfl 5 (by decide) hk7 (fun _ h9 => h9) rfl dX8_count_92 ?_
    have hP9 := hP.sub (ws' := []) [] rfl
    have hD9 := hD.sub (ws' := []) [] (by decide) rfl
    exact z_iret () hx hb hr hlocks hK hP9 hD9 hS hAe hQ rfl (Or.inr (Or.inr (Or.inr (Or.inr (Or.inr (Or.inl ⟨rfl, f1⟩)))))) dX8_count_95
  · refine lv_tableIn (off := 95) (tgt := 96) hx hb dX8_count_1 (by rw [f1]; decide) (by rw [f1]; decide) (by rw [f1]; decide) (by decide) ?_
    refine lv_aload_n hx hb dX8_count_96 rfl (lv_at hl 0 rfl) ?_
    refine va_get (D := (dC, dI)) (ci := 8) (v := .ref (ad 1)) (C := RX8) (T := TX8) (N := 10) hx hb hts hi8 hown hK hP 0 rfl rfl 0 (by decide) hk8 (fun _ h9 => h9) rfl dX8_count_97 ?_
    refine va_get (D := (dC, dI)) (ci := 7) (v := .int 0) (C := RX7) (T := TX7) (N := 8) hx hb hts hi7 hown hK hP 1 rfl rfl 1 (by decide) hk9 (fun _ h9 => h9) rfl dX8_count_100 ?_
    have hP9 := hP.sub (ws' := []) [] rfl
    have hD9 := hD.sub (ws' := []) [] (by decide) rfl
    exact z_iret () hx hb hr hlocks hK hP9 hD9 hS hAe hQ rfl (Or.inr (Or.inr (Or.inr (Or.inr (Or.inr (Or.inr (Or.inl ⟨rfl, f1⟩))))))) dX8_count_103
  · refine lv_tableIn (off := 103) (tgt := 104) hx hb dX8_count_1 (by rw [f1]; decide) (by rw [f1]; decide) (by rw [f1]; decide) (by decide) ?_
    refine lv_aload_n hx hb dX8_count_104 rfl (lv_at hl 0 rfl) ?_
    refine z_fini (w' := fun (u2 : Unit) => [(ad 0, .inr (8, xf0 ad)), (ad 1, .inr (7, xf1 ad)), (ad 3, .inr (3, xf3 ad)), (ad 23, .inr (5, xf23 ad)), (ad 44, .inl (cQ, 4, .inr (.inr (.inr (.inr (va_up (va_up (va_up (va_up (fun _ => none) (Int32.toNatClampNeg 0) (some (ad 45))) (Int32.toNatClampNeg 1) (some (ad 47))) (Int32.toNatClampNeg 2) (some (ad 49))) (Int32.toNatClampNeg 3) (some (ad 51)))))))), (ad 45, .inr (4, xf45 ad)), (ad 47, .inr (4, xf47 ad)), (ad 49, .inr (4, xf49 ad)), (ad 51, .inr (4, xf51 ad))]) (va_runV (As := []) (rest := []) ⟨hx, hb, hml, hown, hts⟩ (c_X8_slotsThatStand_117 l dC dI cB cI cJ cZ cP cQ ad H.size) (cwV 0 hts gX8_count_X8_slotsThatStand rfl rfl rfl (by decide +kernel) ⟨Nat.le_of_ble_eq_true rfl, Nat.le_of_ble_eq_true rfl⟩) (z_pV (ci := 8) hK hP hD zX_nil [0, 4, 5, 6, 7, 8] (by decide) rfl rfl 0 rfl) rfl rfl hl.1 rfl (lv_room (Nat.le_of_ble_eq_true rfl)) dX8_count_105 ⟨Nat.le_of_ble_eq_true rfl, Nat.le_of_ble_eq_true rfl⟩) hP hD hS hA [0, 4, 5, 6, 7, 8] [1, 2, 3] [3, 0, 1, 2, 4, 5, 6, 7, 8] rfl rfl (by decide) (by decide) (fun _ => rfl) (by decide) (fun r3 u2 H locs hp4 hP hD hS => ?_)
    have hP : va_P (dC, dI) vwCl [(ad 0, .inr (8, xf0 ad)), (ad 1, .inr (7, xf1 ad)), (ad 3, .inr (3, xf3 ad)), (ad 23, .inr (5, xf23 ad)), (ad 44, .inl (cQ, 4, .inr (.inr (.inr (.inr (va_up (va_up (va_up (va_up (fun _ => none) (Int32.toNatClampNeg 0) (some (ad 45))) (Int32.toNatClampNeg 1) (some (ad 47))) (Int32.toNatClampNeg 2) (some (ad 49))) (Int32.toNatClampNeg 3) (some (ad 51)))))))), (ad 45, .inr (4, xf45 ad)), (ad 47, .inr (4, xf47 ad)), (ad 49, .inr (4, xf49 ad)), (ad 51, .inr (4, xf51 ad))] H := hP
    have hD : va_D A [(ad 0, .inr (8, xf0 ad)), (ad 1, .inr (7, xf1 ad)), (ad 3, .inr (3, xf3 ad)), (ad 23, .inr (5, xf23 ad)), (ad 44, .inl (cQ, 4, .inr (.inr (.inr (.inr (va_up (va_up (va_up (va_up (fun _ => none) (Int32.toNatClampNeg 0) (some (ad 45))) (Int32.toNatClampNeg 1) (some (ad 47))) (Int32.toNatClampNeg 2) (some (ad 49))) (Int32.toNatClampNeg 3) (some (ad 51)))))))), (ad 45, .inr (4, xf45 ad)), (ad 47, .inr (4, xf47 ad)), (ad 49, .inr (4, xf49 ad)), (ad 51, .inr (4, xf51 ad))] := hD
    refine W.widen (k := 0) (n := 0) (by decide) (by decide) ?_
    obtain rfl : r3 = 0 := hp4
    have hP9 := hP.sub (ws' := []) [] rfl
    have hD9 := hD.sub (ws' := []) [] (by decide) rfl
    exact z_iret () hx hb hr hlocks hK hP9 hD9 hS hAe hQ rfl (Or.inr (Or.inr (Or.inr (Or.inr (Or.inr (Or.inr (Or.inr (Or.inl ⟨rfl, f1⟩)))))))) dX8_count_108
  · refine lv_tableOut (tgt := 109) hx hb dX8_count_1 f1 (by decide) ?_
    refine lv_iconst (v := (-1)) hx hb dX8_count_109 (by decide) ?_
    have hP9 := hP.sub (ws' := []) [] rfl
    have hD9 := hD.sub (ws' := []) [] (by decide) rfl
    exact z_iret () hx hb hr hlocks hK hP9 hD9 hS hAe hQ rfl (Or.inr (Or.inr (Or.inr (Or.inr (Or.inr (Or.inr (Or.inr (Or.inr ⟨rfl, f1⟩)))))))) dX8_count_110
set_option maxHeartbeats 4000000 in
set_option maxRecDepth 100000 in
theorem c_X2_init_119 (l : Launch) (dC : Nat → ClassId) (dI : Nat → Nat → Nat) (cB cI cJ cZ cP cQ : ClassId) (h0 : Nat) (sz : Nat) : Met l yX2_init wsX2_init ({ frames := 2, cells := 17, slots := 1520, locals := 44 } : Room) (zPc [.ref h0] (dC, dI) (zT cB cI cJ cZ cP cQ) [(h0, .inr (2, [.null, .null]))] sz [(RX2, 18, yX5_init, "MonthPush")] []) (va_Qv (fun _ => True) (zB (dC, dI) (zT cB cI cJ cZ cP cQ) (fun u : (Nat → Nat) => [(h0, .inr (2, [.ref (u 0), .ref (u 10)])), (u 0, .inr (3, [.int 0, .int 0, .int 0, .int 0, .int 0, .int 0, .int 0, .ref (u 1), .ref (u 2), .ref (u 3), .ref (u 4), .ref (u 5), .ref (u 6), .ref (u 7), .ref (u 8), .ref (u 9)])), (u 1, .inl (cI, 6, .inl (fun _ => 0))), (u 2, .inl (cI, 6, .inl (fun _ => 0))), (u 3, .inl (cI, 8, .inl (fun _ => 0))), (u 4, .inl (cI, 8, .inl (fun _ => 0))), (u 5, .inl (cI, 8, .inl (fun _ => 0))), (u 6, .inl (cI, 8, .inl (fun _ => 0))), (u 7, .inl (cI, 13, .inl (fun _ => (-1)))), (u 8, .inl (cI, 120, .inl (fun _ => 0))), (u 9, .inl (cI, 120, .inl (fun _ => 0))), (u 10, .inr (5, [.int 0, .ref (u 11), .ref (u 12), .ref (u 13), .ref (u 14), .ref (u 15), .ref (u 16)])), (u 11, .inl (cI, 200, .inl (fun _ => 0))), (u 12, .inl (cI, 200, .inl (fun _ => 0))), (u 13, .inl (cI, 200, .inl (fun _ => 0))), (u 14, .inl (cI, 200, .inl (fun _ => 0))), (u 15, .inl (cI, 200, .inl (fun _ => 0))), (u 16, .inl (cI, 200, .inl (fun _ => 0)))]) [(h0, .inr (2, [.null, .null]))] sz) (va_A [(h0, .inr (2, [.null, .null]))] sz)) 17 1520 (va_A [(h0, .inr (2, [.null, .null]))] sz) := by
  refine z_enter (cc := cX2_init) (maxL := 1) (ret := none) (by decide) rfl (Nat.le_of_ble_eq_true rfl) ?_
  intro p e s m below meth c A ls Q H locs hx hb hr hml hown hts hlocks hin hK hP hD hA hX hS hAe hQ hl
  have hown : s.vm.findClass RX2 = some m.cls := hown
  have hin : meth.name = "<init>" := hin
  have hi2 : ∀ w ∈ wsX20, w ∈ wsX2_init := fun w h => List.mem_cons_of_mem _ (List.mem_append_left _ (List.mem_append_right _ h))
  have hi3 : ∀ w ∈ wsX30, w ∈ wsX2_init := fun w h => List.mem_cons_of_mem _ (List.mem_append_left _ (List.mem_append_left _ (List.mem_append_right _ h)))
  have hi5 : ∀ w ∈ wsX50, w ∈ wsX2_init := fun w h => List.mem_cons_of_mem _ (List.mem_append_right _ h)
  have hk0 := hts (.methodLink RX2 1 objectInit) (by decide +kernel)
  have hk1 := hts (.instanceMethod objectInit) (by decide +kernel)
  have hk2 := hts (.code objectInit ⟨#[0xb1]⟩ 1 none) (by decide +kernel)
  have hk3 := hts (.classLink RX2 7 RX3) (by decide +kernel)
  have hk4 := hts (.instantiable RX3 16) (by decide +kernel)
  have hk5 := hts (.initialized RX3) (by decide +kernel)
  have hk6 := hts (.methodLink RX2 9 yX3_init) (by decide +kernel)
  have hk7 := hts (.instanceMethod yX3_init) (by decide +kernel)
  have hk8 := hts (.fieldLink RX2 10 "MonthPush$Image" "land" "LMonthPush$Land;") (by decide +kernel)
  have hk9 := hts (.classLink RX2 16 RX5) (by decide +kernel)
  have hk10 := hts (.instantiable RX5 7) (by decide +kernel)
  have hk11 := hts (.initialized RX5) (by decide +kernel)
  have hk12 := hts (.instanceMethod yX5_init) (by decide +kernel)
  have hk13 := hts (.fieldLink RX2 19 "MonthPush$Image" "sheets" "LMonthPush$Sheets;") (by decide +kernel)
  have hl : lv_has ls 1 [(0, .ref h0)] := hl
  refine lv_aload_n hx hb dX2_init_0 rfl (lv_at hl 0 rfl) ?_
  refine W.objInit hx hb hown hk0 hk1 hk2 rfl (by rw [hml]; exact hl.1) rfl dX2_init_1 (Nat.le_of_ble_eq_true rfl) (Nat.le_of_ble_eq_true rfl) ?_
  refine W.eq (g2 := F0 m 4 ls []) rfl ?_
  refine lv_aload_n hx hb dX2_init_4 rfl (lv_at hl 0 rfl) ?_
  refine va_new (ci := 3) (fs := [.int 0, .int 0, .int 0, .int 0, .int 0, .int 0, .int 0, .null, .null, .null, .null, .null, .null, .null, .null, .null]) (C := RX3) (T := TX3) (N := 16) hx hb hts hi3 tyX3 tyX3_ok hown hk3 hk4 hk5 hK hP hD hS hA rfl (z_fs3) (Nat.le_of_ble_eq_true rfl) (Nat.le_of_ble_eq_true rfl) dX2_init_5 (fun q1 H hP hD hS => ?_)
  have hP : va_P (dC, dI) vwCl [(h0, .inr (2, [.null, .null])), (q1, .inr (3, [.int 0, .int 0, .int 0, .int 0, .int 0, .int 0, .int 0, .null, .null, .null, .null, .null, .null, .null, .null, .null]))] H := hP
  have hD : va_D A [(h0, .inr (2, [.null, .null])), (q1, .inr (3, [.int 0, .int 0, .int 0, .int 0, .int 0, .int 0, .int 0, .null, .null, .null, .null, .null, .null, .null, .null, .null]))] := hD
  refine W.widen (k := 1) (n := 16) (by decide) (by decide) ?_
  refine lv_dup hx hb dX2_init_8 rfl ?_
  refine z_finv (w' := fun (u2 : Nat → Nat) => [(h0, .inr (2, [.null, .null])), (q1, .inr (3, [.int 0, .int 0, .int 0, .int 0, .int 0, .int 0, .int 0, .ref (u2 0), .ref (u2 1), .ref (u2 2), .ref (u2 3), .ref (u2 4), .ref (u2 5), .ref (u2 6), .ref (u2 7), .ref (u2 8)])), (u2 0, .inl (cI, 6, .inl (fun _ => 0))), (u2 1, .inl (cI, 6, .inl (fun _ => 0))), (u2 2, .inl (cI, 8, .inl (fun _ => 0))), (u2 3, .inl (cI, 8, .inl (fun _ => 0))), (u2 4, .inl (cI, 8, .inl (fun _ => 0))), (u2 5, .inl (cI, 8, .inl (fun _ => 0))), (u2 6, .inl (cI, 13, .inl (fun _ => (-1)))), (u2 7, .inl (cI, 120, .inl (fun _ => 0))), (u2 8, .inl (cI, 120, .inl (fun _ => 0)))]) (va_runI (As := []) (rest := [.ref q1, .ref h0]) ⟨hx, hb, hml, hown, hts⟩ (c_X3_init_3 l dC dI cB cI cJ cZ cP cQ q1 H.size) (cwI 0 hts gX2_init_X3_init rfl rfl rfl hk5 hk6 hk7 rfl (by decide +kernel) ⟨Nat.le_of_ble_eq_true rfl, Nat.le_of_ble_eq_true rfl⟩) (z_pS hK hP hD zX_nil [1] (by decide) rfl) rfl rfl hl.1 rfl (lv_room (Nat.le_of_ble_eq_true rfl)) dX2_init_9 ⟨Nat.le_of_ble_eq_true rfl, Nat.le_of_ble_eq_true rfl⟩) hP hD hS hA [1] [0] [0, 1, 2, 3, 4, 5, 6, 7, 8, 9, 10] rfl rfl (by decide) (by decide) (fun _ => rfl) (by decide) (fun u2 H locs hp4 hP hD hS => ?_)
  have hP : va_P (dC, dI) vwCl [(h0, .inr (2, [.null, .null])), (q1, .inr (3, [.int 0, .int 0, .int 0, .int 0, .int 0, .int 0, .int 0, .ref (u2 0), .ref (u2 1), .ref (u2 2), .ref (u2 3), .ref (u2 4), .ref (u2 5), .ref (u2 6), .ref (u2 7), .ref (u2 8)])), (u2 0, .inl (cI, 6, .inl (fun _ => 0))), (u2 1, .inl (cI, 6, .inl (fun _ => 0))), (u2 2, .inl (cI, 8, .inl (fun _ => 0))), (u2 3, .inl (cI, 8, .inl (fun _ => 0))), (u2 4, .inl (cI, 8, .inl (fun _ => 0))), (u2 5, .inl (cI, 8, .inl (fun _ => 0))), (u2 6, .inl (cI, 13, .inl (fun _ => (-1)))), (u2 7, .inl (cI, 120, .inl (fun _ => 0))), (u2 8, .inl (cI, 120, .inl (fun _ => 0)))] H := hP
  have hD : va_D A [(h0, .inr (2, [.null, .null])), (q1, .inr (3, [.int 0, .int 0, .int 0, .int 0, .int 0, .int 0, .int 0, .ref (u2 0), .ref (u2 1), .ref (u2 2), .ref (u2 3), .ref (u2 4), .ref (u2 5), .ref (u2 6), .ref (u2 7), .ref (u2 8)])), (u2 0, .inl (cI, 6, .inl (fun _ => 0))), (u2 1, .inl (cI, 6, .inl (fun _ => 0))), (u2 2, .inl (cI, 8, .inl (fun _ => 0))), (u2 3, .inl (cI, 8, .inl (fun _ => 0))), (u2 4, .inl (cI, 8, .inl (fun _ => 0))), (u2 5, .inl (cI, 8, .inl (fun _ => 0))), (u2 6, .inl (cI, 13, .inl (fun _ => (-1)))), (u2 7, .inl (cI, 120, .inl (fun _ => 0))), (u2 8, .inl (cI, 120, .inl (fun _ => 0)))] := hD
  refine W.widen (k := 10) (n := 313) (by decide) (by decide) ?_
  refine va_putF (D := (dC, dI)) (ci := 2) (v := .ref q1) (ty := .object "MonthPush$Land") (C := RX2) (T := TX2) (N := 2) hx hb hts hi2 tyX2 tyX2_ok nmX2 hown hK hP hD hS 0 rfl rfl 0 (by decide) hk8 (fun _ h9 => h9) rfl hin rfl (by decide +kernel) rfl rfl (Nat.le_of_ble_eq_true rfl) dX2_init_12 (fun H locs hP hD hS => ?_)
  have hP : va_P (dC, dI) vwCl [(h0, .inr (2, [.ref q1, .null])), (q1, .inr (3, [.int 0, .int 0, .int 0, .int 0, .int 0, .int 0, .int 0, .ref (u2 0), .ref (u2 1), .ref (u2 2), .ref (u2 3), .ref (u2 4), .ref (u2 5), .ref (u2 6), .ref (u2 7), .ref (u2 8)])), (u2 0, .inl (cI, 6, .inl (fun _ => 0))), (u2 1, .inl (cI, 6, .inl (fun _ => 0))), (u2 2, .inl (cI, 8, .inl (fun _ => 0))), (u2 3, .inl (cI, 8, .inl (fun _ => 0))), (u2 4, .inl (cI, 8, .inl (fun _ => 0))), (u2 5, .inl (cI, 8, .inl (fun _ => 0))), (u2 6, .inl (cI, 13, .inl (fun _ => (-1)))), (u2 7, .inl (cI, 120, .inl (fun _ => 0))), (u2 8, .inl (cI, 120, .inl (fun _ => 0)))] H := hP
  have hD : va_D A [(h0, .inr (2, [.ref q1, .null])), (q1, .inr (3, [.int 0, .int 0, .int 0, .int 0, .int 0, .int 0, .int 0, .ref (u2 0), .ref (u2 1), .ref (u2 2), .ref (u2 3), .ref (u2 4), .ref (u2 5), .ref (u2 6), .ref (u2 7), .ref (u2 8)])), (u2 0, .inl (cI, 6, .inl (fun _ => 0))), (u2 1, .inl (cI, 6, .inl (fun _ => 0))), (u2 2, .inl (cI, 8, .inl (fun _ => 0))), (u2 3, .inl (cI, 8, .inl (fun _ => 0))), (u2 4, .inl (cI, 8, .inl (fun _ => 0))), (u2 5, .inl (cI, 8, .inl (fun _ => 0))), (u2 6, .inl (cI, 13, .inl (fun _ => (-1)))), (u2 7, .inl (cI, 120, .inl (fun _ => 0))), (u2 8, .inl (cI, 120, .inl (fun _ => 0)))] := hD
  refine lv_aload_n hx hb dX2_init_15 rfl (lv_at hl 0 rfl) ?_
  refine va_new (ci := 5) (fs := [.int 0, .null, .null, .null, .null, .null, .null]) (C := RX5) (T := TX5) (N := 7) hx hb hts hi5 tyX5 tyX5_ok hown hk9 hk10 hk11 hK hP hD hS hA rfl (z_fs5) (Nat.le_of_ble_eq_true rfl) (Nat.le_of_ble_eq_true rfl) dX2_init_16 (fun q5 H hP hD hS => ?_)
  have hP : va_P (dC, dI) vwCl [(h0, .inr (2, [.ref q1, .null])), (q1, .inr (3, [.int 0, .int 0, .int 0, .int 0, .int 0, .int 0, .int 0, .ref (u2 0), .ref (u2 1), .ref (u2 2), .ref (u2 3), .ref (u2 4), .ref (u2 5), .ref (u2 6), .ref (u2 7), .ref (u2 8)])), (u2 0, .inl (cI, 6, .inl (fun _ => 0))), (u2 1, .inl (cI, 6, .inl (fun _ => 0))), (u2 2, .inl (cI, 8, .inl (fun _ => 0))), (u2 3, .inl (cI, 8, .inl (fun _ => 0))), (u2 4, .inl (cI, 8, .inl (fun _ => 0))), (u2 5, .inl (cI, 8, .inl (fun _ => 0))), (u2 6, .inl (cI, 13, .inl (fun _ => (-1)))), (u2 7, .inl (cI, 120, .inl (fun _ => 0))), (u2 8, .inl (cI, 120, .inl (fun _ => 0))), (q5, .inr (5, [.int 0, .null, .null, .null, .null, .null, .null]))] H := hP
  have hD : va_D A [(h0, .inr (2, [.ref q1, .null])), (q1, .inr (3, [.int 0, .int 0, .int 0, .int 0, .int 0, .int 0, .int 0, .ref (u2 0), .ref (u2 1), .ref (u2 2), .ref (u2 3), .ref (u2 4), .ref (u2 5), .ref (u2 6), .ref (u2 7), .ref (u2 8)])), (u2 0, .inl (cI, 6, .inl (fun _ => 0))), (u2 1, .inl (cI, 6, .inl (fun _ => 0))), (u2 2, .inl (cI, 8, .inl (fun _ => 0))), (u2 3, .inl (cI, 8, .inl (fun _ => 0))), (u2 4, .inl (cI, 8, .inl (fun _ => 0))), (u2 5, .inl (cI, 8, .inl (fun _ => 0))), (u2 6, .inl (cI, 13, .inl (fun _ => (-1)))), (u2 7, .inl (cI, 120, .inl (fun _ => 0))), (u2 8, .inl (cI, 120, .inl (fun _ => 0))), (q5, .inr (5, [.int 0, .null, .null, .null, .null, .null, .null]))] := hD
  refine W.widen (k := 11) (n := 320) (by decide) (by decide) ?_
  refine lv_dup hx hb dX2_init_19 rfl ?_
  refine z_finv (w' := fun (u6 : Nat → Nat) => [(h0, .inr (2, [.ref q1, .null])), (q1, .inr (3, [.int 0, .int 0, .int 0, .int 0, .int 0, .int 0, .int 0, .ref (u2 0), .ref (u2 1), .ref (u2 2), .ref (u2 3), .ref (u2 4), .ref (u2 5), .ref (u2 6), .ref (u2 7), .ref (u2 8)])), (u2 0, .inl (cI, 6, .inl (fun _ => 0))), (u2 1, .inl (cI, 6, .inl (fun _ => 0))), (u2 2, .inl (cI, 8, .inl (fun _ => 0))), (u2 3, .inl (cI, 8, .inl (fun _ => 0))), (u2 4, .inl (cI, 8, .inl (fun _ => 0))), (u2 5, .inl (cI, 8, .inl (fun _ => 0))), (u2 6, .inl (cI, 13, .inl (fun _ => (-1)))), (u2 7, .inl (cI, 120, .inl (fun _ => 0))), (u2 8, .inl (cI, 120, .inl (fun _ => 0))), (q5, .inr (5, [.int 0, .ref (u6 0), .ref (u6 1), .ref (u6 2), .ref (u6 3), .ref (u6 4), .ref (u6 5)])), (u6 0, .inl (cI, 200, .inl (fun _ => 0))), (u6 1, .inl (cI, 200, .inl (fun _ => 0))), (u6 2, .inl (cI, 200, .inl (fun _ => 0))), (u6 3, .inl (cI, 200, .inl (fun _ => 0))), (u6 4, .inl (cI, 200, .inl (fun _ => 0))), (u6 5, .inl (cI, 200, .inl (fun _ => 0)))]) (va_runIN (As := []) (rest := [.ref q5, .ref h0]) ⟨hx, hb, hml, hown, hts⟩ (c_X5_init_4 l dC dI cB cI cJ cZ cP cQ q5 H.size) ⟨va_cnB 0 hts gX2_init_X5_init_n18 rfl rfl rfl (hX.1 (RX2, 18, yX5_init, "MonthPush") (by decide +kernel)) hk11 (by decide +kernel) ⟨Nat.le_of_ble_eq_true rfl, Nat.le_of_ble_eq_true rfl⟩, rfl, hk12⟩ (z_pS hK hP hD zX_nil [11] (by decide) rfl) rfl rfl hl.1 rfl (lv_room (Nat.le_of_ble_eq_true rfl)) dX2_init_20 ⟨Nat.le_of_ble_eq_true rfl, Nat.le_of_ble_eq_true rfl⟩) hP hD hS hA [11] [0, 1, 2, 3, 4, 5, 6, 7, 8, 9, 10] [0, 1, 2, 3, 4, 5, 6, 7, 8, 9, 10, 11, 12, 13, 14, 15, 16, 17] rfl rfl (by decide) (by decide) (fun _ => rfl) (by decide) (fun u6 H locs hp8 hP hD hS => ?_)
  have hP : va_P (dC, dI) vwCl [(h0, .inr (2, [.ref q1, .null])), (q1, .inr (3, [.int 0, .int 0, .int 0, .int 0, .int 0, .int 0, .int 0, .ref (u2 0), .ref (u2 1), .ref (u2 2), .ref (u2 3), .ref (u2 4), .ref (u2 5), .ref (u2 6), .ref (u2 7), .ref (u2 8)])), (u2 0, .inl (cI, 6, .inl (fun _ => 0))), (u2 1, .inl (cI, 6, .inl (fun _ => 0))), (u2 2, .inl (cI, 8, .inl (fun _ => 0))), (u2 3, .inl (cI, 8, .inl (fun _ => 0))), (u2 4, .inl (cI, 8, .inl (fun _ => 0))), (u2 5, .inl (cI, 8, .inl (fun _ => 0))), (u2 6, .inl (cI, 13, .inl (fun _ => (-1)))), (u2 7, .inl (cI, 120, .inl (fun _ => 0))), (u2 8, .inl (cI, 120, .inl (fun _ => 0))), (q5, .inr (5, [.int 0, .ref (u6 0), .ref (u6 1), .ref (u6 2), .ref (u6 3), .ref (u6 4), .ref (u6 5)])), (u6 0, .inl (cI, 200, .inl (fun _ => 0))), (u6 1, .inl (cI, 200, .inl (fun _ => 0))), (u6 2, .inl (cI, 200, .inl (fun _ => 0))), (u6 3, .inl (cI, 200, .inl (fun _ => 0))), (u6 4, .inl (cI, 200, .inl (fun _ => 0))), (u6 5, .inl (cI, 200, .inl (fun _ => 0)))] H := hP
  have hD : va_D A [(h0, .inr (2, [.ref q1, .null])), (q1, .inr (3, [.int 0, .int 0, .int 0, .int 0, .int 0, .int 0, .int 0, .ref (u2 0), .ref (u2 1), .ref (u2 2), .ref (u2 3), .ref (u2 4), .ref (u2 5), .ref (u2 6), .ref (u2 7), .ref (u2 8)])), (u2 0, .inl (cI, 6, .inl (fun _ => 0))), (u2 1, .inl (cI, 6, .inl (fun _ => 0))), (u2 2, .inl (cI, 8, .inl (fun _ => 0))), (u2 3, .inl (cI, 8, .inl (fun _ => 0))), (u2 4, .inl (cI, 8, .inl (fun _ => 0))), (u2 5, .inl (cI, 8, .inl (fun _ => 0))), (u2 6, .inl (cI, 13, .inl (fun _ => (-1)))), (u2 7, .inl (cI, 120, .inl (fun _ => 0))), (u2 8, .inl (cI, 120, .inl (fun _ => 0))), (q5, .inr (5, [.int 0, .ref (u6 0), .ref (u6 1), .ref (u6 2), .ref (u6 3), .ref (u6 4), .ref (u6 5)])), (u6 0, .inl (cI, 200, .inl (fun _ => 0))), (u6 1, .inl (cI, 200, .inl (fun _ => 0))), (u6 2, .inl (cI, 200, .inl (fun _ => 0))), (u6 3, .inl (cI, 200, .inl (fun _ => 0))), (u6 4, .inl (cI, 200, .inl (fun _ => 0))), (u6 5, .inl (cI, 200, .inl (fun _ => 0)))] := hD
  refine W.widen (k := 17) (n := 1520) (by decide) (by decide) ?_
  refine va_putF (D := (dC, dI)) (ci := 2) (v := .ref q5) (ty := .object "MonthPush$Sheets") (C := RX2) (T := TX2) (N := 2) hx hb hts hi2 tyX2 tyX2_ok nmX2 hown hK hP hD hS 0 rfl rfl 1 (by decide) hk13 (fun _ h9 => h9) rfl hin rfl (by decide +kernel) rfl rfl (Nat.le_of_ble_eq_true rfl) dX2_init_23 (fun H locs hP hD hS => ?_)
  have hP : va_P (dC, dI) vwCl [(h0, .inr (2, [.ref q1, .ref q5])), (q1, .inr (3, [.int 0, .int 0, .int 0, .int 0, .int 0, .int 0, .int 0, .ref (u2 0), .ref (u2 1), .ref (u2 2), .ref (u2 3), .ref (u2 4), .ref (u2 5), .ref (u2 6), .ref (u2 7), .ref (u2 8)])), (u2 0, .inl (cI, 6, .inl (fun _ => 0))), (u2 1, .inl (cI, 6, .inl (fun _ => 0))), (u2 2, .inl (cI, 8, .inl (fun _ => 0))), (u2 3, .inl (cI, 8, .inl (fun _ => 0))), (u2 4, .inl (cI, 8, .inl (fun _ => 0))), (u2 5, .inl (cI, 8, .inl (fun _ => 0))), (u2 6, .inl (cI, 13, .inl (fun _ => (-1)))), (u2 7, .inl (cI, 120, .inl (fun _ => 0))), (u2 8, .inl (cI, 120, .inl (fun _ => 0))), (q5, .inr (5, [.int 0, .ref (u6 0), .ref (u6 1), .ref (u6 2), .ref (u6 3), .ref (u6 4), .ref (u6 5)])), (u6 0, .inl (cI, 200, .inl (fun _ => 0))), (u6 1, .inl (cI, 200, .inl (fun _ => 0))), (u6 2, .inl (cI, 200, .inl (fun _ => 0))), (u6 3, .inl (cI, 200, .inl (fun _ => 0))), (u6 4, .inl (cI, 200, .inl (fun _ => 0))), (u6 5, .inl (cI, 200, .inl (fun _ => 0)))] H := hP
  have hD : va_D A [(h0, .inr (2, [.ref q1, .ref q5])), (q1, .inr (3, [.int 0, .int 0, .int 0, .int 0, .int 0, .int 0, .int 0, .ref (u2 0), .ref (u2 1), .ref (u2 2), .ref (u2 3), .ref (u2 4), .ref (u2 5), .ref (u2 6), .ref (u2 7), .ref (u2 8)])), (u2 0, .inl (cI, 6, .inl (fun _ => 0))), (u2 1, .inl (cI, 6, .inl (fun _ => 0))), (u2 2, .inl (cI, 8, .inl (fun _ => 0))), (u2 3, .inl (cI, 8, .inl (fun _ => 0))), (u2 4, .inl (cI, 8, .inl (fun _ => 0))), (u2 5, .inl (cI, 8, .inl (fun _ => 0))), (u2 6, .inl (cI, 13, .inl (fun _ => (-1)))), (u2 7, .inl (cI, 120, .inl (fun _ => 0))), (u2 8, .inl (cI, 120, .inl (fun _ => 0))), (q5, .inr (5, [.int 0, .ref (u6 0), .ref (u6 1), .ref (u6 2), .ref (u6 3), .ref (u6 4), .ref (u6 5)])), (u6 0, .inl (cI, 200, .inl (fun _ => 0))), (u6 1, .inl (cI, 200, .inl (fun _ => 0))), (u6 2, .inl (cI, 200, .inl (fun _ => 0))), (u6 3, .inl (cI, 200, .inl (fun _ => 0))), (u6 4, .inl (cI, 200, .inl (fun _ => 0))), (u6 5, .inl (cI, 200, .inl (fun _ => 0)))] := hD
  refine W.widen (k := 17) (n := 1520) (by decide) (by decide) ?_
  exact z_vret (fun k => match k with | 0 => q1 | 1 => u2 0 | 2 => u2 1 | 3 => u2 2 | 4 => u2 3 | 5 => u2 4 | 6 => u2 5 | 7 => u2 6 | 8 => u2 7 | 9 => u2 8 | 10 => q5 | 11 => u6 0 | 12 => u6 1 | 13 => u6 2 | 14 => u6 3 | 15 => u6 4 | _ => u6 5) hx hb hr hlocks hK hP hD hS hAe hQ rfl trivial dX2_init_26
set_option maxHeartbeats 4000000 in
set_option maxRecDepth 100000 in
theorem c_X3_copyOf_120 (l : Launch) (dC : Nat → ClassId) (dI : Nat → Nat → Nat) (cB cI cJ cZ cP cQ : ClassId) (h0 : Nat) (ad : Nat → Nat) (h1 : Nat) (h2 : Nat) (h3 : Nat) (h4 : Nat) (h5 : Nat) (h6 : Nat) (h7 : Nat) (h8 : Nat) (h9 : Nat) (sz : Nat) : Met l yX3_copyOf wsX3_copyOf ({ frames := 1, cells := 0, slots := 0, locals := 80 } : Room) (zPc [.ref h0, .ref (ad 3)] (dC, dI) (zT cB cI cJ cZ cP cQ) [(ad 3, .inr (3, xf3 ad)), (ad 4, .inl (cI, 6, .inl (fun _ => 0))), (ad 5, .inl (cI, 6, .inl (fun _ => 0))), (ad 6, .inl (cI, 8, .inl (fun _ => 0))), (ad 7, .inl (cI, 8, .inl (fun _ => 0))), (ad 8, .inl (cI, 8, .inl (fun _ => 0))), (ad 9, .inl (cI, 8, .inl (fun _ => 0))), (ad 10, .inl (cI, 13, .inl (fun _ => (-1)))), (ad 11, .inl (cI, 120, .inl (fun _ => 0))), (ad 12, .inl (cI, 120, .inl (fun _ => 0))), (h0, .inr (3, [.int 0, .int 0, .int 0, .int 0, .int 0, .int 0, .int 0, .ref h1, .ref h2, .ref h3, .ref h4, .ref h5, .ref h6, .ref h7, .ref h8, .ref h9])), (h1, .inl (cI, 6, .inl (fun _ => 0))), (h2, .inl (cI, 6, .inl (fun _ => 0))), (h3, .inl (cI, 8, .inl (fun _ => 0))), (h4, .inl (cI, 8, .inl (fun _ => 0))), (h5, .inl (cI, 8, .inl (fun _ => 0))), (h6, .inl (cI, 8, .inl (fun _ => 0))), (h7, .inl (cI, 13, .inl (fun _ => (-1)))), (h8, .inl (cI, 120, .inl (fun _ => 0))), (h9, .inl (cI, 120, .inl (fun _ => 0)))] sz [] []) (va_Qv (fun _ => True) (zB (dC, dI) (zT cB cI cJ cZ cP cQ) (fun _ : Unit => [(ad 3, .inr (3, xf3 ad)), (ad 4, .inl (cI, 6, .inl (fun _ => 0))), (ad 5, .inl (cI, 6, .inl (fun _ => 0))), (ad 6, .inl (cI, 8, .inl (fun _ => 0))), (ad 7, .inl (cI, 8, .inl (fun _ => 0))), (ad 8, .inl (cI, 8, .inl (fun _ => 0))), (ad 9, .inl (cI, 8, .inl (fun _ => 0))), (ad 10, .inl (cI, 13, .inl (fun _ => (-1)))), (ad 11, .inl (cI, 120, .inl (fun _ => 0))), (ad 12, .inl (cI, 120, .inl (fun _ => 0))), (h0, .inr (3, [.int 0, .int 0, .int 0, .int 0, .int 0, .int 0, .int 0, .ref h1, .ref h2, .ref h3, .ref h4, .ref h5, .ref h6, .ref h7, .ref h8, .ref h9])), (h1, .inl (cI, 6, .inl (va_cpy (fun _ => 0) (fun _ => 0) (Int32.toNatClampNeg 0) (Int32.toNatClampNeg 0) (Int32.toNatClampNeg 6)))), (h2, .inl (cI, 6, .inl (va_cpy (fun _ => 0) (fun _ => 0) (Int32.toNatClampNeg 0) (Int32.toNatClampNeg 0) (Int32.toNatClampNeg 6)))), (h3, .inl (cI, 8, .inl (va_cpy (fun _ => 0) (fun _ => 0) (Int32.toNatClampNeg 0) (Int32.toNatClampNeg 0) (Int32.toNatClampNeg 8)))), (h4, .inl (cI, 8, .inl (va_cpy (fun _ => 0) (fun _ => 0) (Int32.toNatClampNeg 0) (Int32.toNatClampNeg 0) (Int32.toNatClampNeg 8)))), (h5, .inl (cI, 8, .inl (va_cpy (fun _ => 0) (fun _ => 0) (Int32.toNatClampNeg 0) (Int32.toNatClampNeg 0) (Int32.toNatClampNeg 8)))), (h6, .inl (cI, 8, .inl (va_cpy (fun _ => 0) (fun _ => 0) (Int32.toNatClampNeg 0) (Int32.toNatClampNeg 0) (Int32.toNatClampNeg 8)))), (h7, .inl (cI, 13, .inl (va_cpy (fun _ => (-1)) (fun _ => (-1)) (Int32.toNatClampNeg 0) (Int32.toNatClampNeg 0) (Int32.toNatClampNeg 13)))), (h8, .inl (cI, 120, .inl (va_cpy (fun _ => 0) (fun _ => 0) (Int32.toNatClampNeg 0) (Int32.toNatClampNeg 0) (Int32.toNatClampNeg 120)))), (h9, .inl (cI, 120, .inl (va_cpy (fun _ => 0) (fun _ => 0) (Int32.toNatClampNeg 0) (Int32.toNatClampNeg 0) (Int32.toNatClampNeg 120))))]) [(ad 3, .inr (3, xf3 ad)), (ad 4, .inl (cI, 6, .inl (fun _ => 0))), (ad 5, .inl (cI, 6, .inl (fun _ => 0))), (ad 6, .inl (cI, 8, .inl (fun _ => 0))), (ad 7, .inl (cI, 8, .inl (fun _ => 0))), (ad 8, .inl (cI, 8, .inl (fun _ => 0))), (ad 9, .inl (cI, 8, .inl (fun _ => 0))), (ad 10, .inl (cI, 13, .inl (fun _ => (-1)))), (ad 11, .inl (cI, 120, .inl (fun _ => 0))), (ad 12, .inl (cI, 120, .inl (fun _ => 0))), (h0, .inr (3, [.int 0, .int 0, .int 0, .int 0, .int 0, .int 0, .int 0, .ref h1, .ref h2, .ref h3, .ref h4, .ref h5, .ref h6, .ref h7, .ref h8, .ref h9])), (h1, .inl (cI, 6, .inl (fun _ => 0))), (h2, .inl (cI, 6, .inl (fun _ => 0))), (h3, .inl (cI, 8, .inl (fun _ => 0))), (h4, .inl (cI, 8, .inl (fun _ => 0))), (h5, .inl (cI, 8, .inl (fun _ => 0))), (h6, .inl (cI, 8, .inl (fun _ => 0))), (h7, .inl (cI, 13, .inl (fun _ => (-1)))), (h8, .inl (cI, 120, .inl (fun _ => 0))), (h9, .inl (cI, 120, .inl (fun _ => 0)))] sz) (va_A [(ad 3, .inr (3, xf3 ad)), (ad 4, .inl (cI, 6, .inl (fun _ => 0))), (ad 5, .inl (cI, 6, .inl (fun _ => 0))), (ad 6, .inl (cI, 8, .inl (fun _ => 0))), (ad 7, .inl (cI, 8, .inl (fun _ => 0))), (ad 8, .inl (cI, 8, .inl (fun _ => 0))), (ad 9, .inl (cI, 8, .inl (fun _ => 0))), (ad 10, .inl (cI, 13, .inl (fun _ => (-1)))), (ad 11, .inl (cI, 120, .inl (fun _ => 0))), (ad 12, .inl (cI, 120, .inl (fun _ => 0))), (h0, .inr (3, [.int 0, .int 0, .int 0, .int 0, .int 0, .int 0, .int 0, .ref h1, .ref h2, .ref h3, .ref h4, .ref h5, .ref h6, .ref h7, .ref h8, .ref h9])), (h1, .inl (cI, 6, .inl (fun _ => 0))), (h2, .inl (cI, 6, .inl (fun _ => 0))), (h3, .inl (cI, 8, .inl (fun _ => 0))), (h4, .inl (cI, 8, .inl (fun _ => 0))), (h5, .inl (cI, 8, .inl (fun _ => 0))), (h6, .inl (cI, 8, .inl (fun _ => 0))), (h7, .inl (cI, 13, .inl (fun _ => (-1)))), (h8, .inl (cI, 120, .inl (fun _ => 0))), (h9, .inl (cI, 120, .inl (fun _ => 0)))] sz)) 0 0 (va_A [(ad 3, .inr (3, xf3 ad)), (ad 4, .inl (cI, 6, .inl (fun _ => 0))), (ad 5, .inl (cI, 6, .inl (fun _ => 0))), (ad 6, .inl (cI, 8, .inl (fun _ => 0))), (ad 7, .inl (cI, 8, .inl (fun _ => 0))), (ad 8, .inl (cI, 8, .inl (fun _ => 0))), (ad 9, .inl (cI, 8, .inl (fun _ => 0))), (ad 10, .inl (cI, 13, .inl (fun _ => (-1)))), (ad 11, .inl (cI, 120, .inl (fun _ => 0))), (ad 12, .inl (cI, 120, .inl (fun _ => 0))), (h0, .inr (3, [.int 0, .int 0, .int 0, .int 0, .int 0, .int 0, .int 0, .ref h1, .ref h2, .ref h3, .ref h4, .ref h5, .ref h6, .ref h7, .ref h8, .ref h9])), (h1, .inl (cI, 6, .inl (fun _ => 0))), (h2, .inl (cI, 6, .inl (fun _ => 0))), (h3, .inl (cI, 8, .inl (fun _ => 0))), (h4, .inl (cI, 8, .inl (fun _ => 0))), (h5, .inl (cI, 8, .inl (fun _ => 0))), (h6, .inl (cI, 8, .inl (fun _ => 0))), (h7, .inl (cI, 13, .inl (fun _ => (-1)))), (h8, .inl (cI, 120, .inl (fun _ => 0))), (h9, .inl (cI, 120, .inl (fun _ => 0)))] sz) := by
  refine z_enter (cc := cX3_copyOf) (maxL := 2) (ret := none) (by decide) rfl (Nat.le_of_ble_eq_true rfl) ?_
  intro p e s m below meth c A ls Q H locs hx hb hr hml hown hts hlocks hin hK hP hD hA hX hS hAe hQ hl
  have hown : s.vm.findClass RX3 = some m.cls := hown
  have hi3 : ∀ w ∈ wsX30, w ∈ wsX3_copyOf := fun w h => List.mem_cons_of_mem _ (List.mem_append_right _ h)
  have hk0 := hts (.fieldLink RX3 45 "MonthPush$Land" "lines" "I") (by decide +kernel)
  have hk1 := hts (.fieldLink RX3 49 "MonthPush$Land" "laws" "I") (by decide +kernel)
  have hk2 := hts (.fieldLink RX3 52 "MonthPush$Land" "sorts" "I") (by decide +kernel)
  have hk3 := hts (.fieldLink RX3 55 "MonthPush$Land" "shares" "I") (by decide +kernel)
  have hk4 := hts (.fieldLink RX3 58 "MonthPush$Land" "parts" "I") (by decide +kernel)
  have hk5 := hts (.fieldLink RX3 61 "MonthPush$Land" "noise" "I") (by decide +kernel)
  have hk6 := hts (.fieldLink RX3 64 "MonthPush$Land" "noiseTold" "Z") (by decide +kernel)
  have hk7 := hts (.fieldLink RX3 9 "MonthPush$Land" "enter" "[I") (by decide +kernel)
  have hk8 := hts (.methodLink RX3 68 arraycopyName) (by decide +kernel)
  have hk9 := hts (.native arraycopyName) (by decide +kernel)
  have hk10 := hts (.static arraycopyName) (by decide +kernel)
  have hk11 := hts (.initialized "java/lang/System") (by decide +kernel)
  have hk12 := hts (.fieldLink RX3 15 "MonthPush$Land" "leave" "[I") (by decide +kernel)
  have hk13 := hts (.fieldLink RX3 18 "MonthPush$Land" "share" "[I") (by decide +kernel)
  have hk14 := hts (.fieldLink RX3 21 "MonthPush$Land" "gift" "[I") (by decide +kernel)
  have hk15 := hts (.fieldLink RX3 24 "MonthPush$Land" "wish" "[I") (by decide +kernel)
  have hk16 := hts (.fieldLink RX3 27 "MonthPush$Land" "spread" "[I") (by decide +kernel)
  have hk17 := hts (.fieldLink RX3 30 "MonthPush$Land" "leakBy" "[I") (by decide +kernel)
  have hk18 := hts (.fieldLink RX3 33 "MonthPush$Land" "joint" "[I") (by decide +kernel)
  have hk19 := hts (.fieldLink RX3 36 "MonthPush$Land" "part" "[I") (by decide +kernel)
  have hl : lv_has ls 2 [(0, .ref h0), (1, .ref (ad 3))] := hl
  refine lv_aload_n hx hb dX3_copyOf_0 rfl (lv_at hl 0 rfl) ?_
  refine lv_aload_n hx hb dX3_copyOf_1 rfl (lv_at hl 1 rfl) ?_
  refine va_get (D := (dC, dI)) (ci := 3) (v := .int 0) (C := RX3) (T := TX3) (N := 16) hx hb hts hi3 hown hK hP 0 rfl rfl 0 (by decide) hk0 (fun _ h9 => h9) rfl dX3_copyOf_2 ?_
  refine z_put0 (D := (dC, dI)) (ci := 3) (v := .int 0) (ty := .int) (C := RX3) (T := TX3) (N := 16) hx hb hts hi3 tyX3 tyX3_ok nmX3 hown hK hP hD hS 10 rfl rfl 0 (by decide) hk0 (fun _ h9 => h9) rfl (by decide +kernel) rfl rfl rfl dX3_copyOf_5 (fun H locs hP hS => ?_)
  refine lv_aload_n hx hb dX3_copyOf_8 rfl (lv_at hl 0 rfl) ?_
  refine lv_aload_n hx hb dX3_copyOf_9 rfl (lv_at hl 1 rfl) ?_
  refine va_get (D := (dC, dI)) (ci := 3) (v := .int 0) (C := RX3) (T := TX3) (N := 16) hx hb hts hi3 hown hK hP 0 rfl rfl 1 (by decide) hk1 (fun _ h9 => h9) rfl dX3_copyOf_10 ?_
  refine z_put0 (D := (dC, dI)) (ci := 3) (v := .int 0) (ty := .int) (C := RX3) (T := TX3) (N := 16) hx hb hts hi3 tyX3 tyX3_ok nmX3 hown hK hP hD hS 10 rfl rfl 1 (by decide) hk1 (fun _ h9 => h9) rfl (by decide +kernel) rfl rfl rfl dX3_copyOf_13 (fun H locs hP hS => ?_)
  refine lv_aload_n hx hb dX3_copyOf_16 rfl (lv_at hl 0 rfl) ?_
  refine lv_aload_n hx hb dX3_copyOf_17 rfl (lv_at hl 1 rfl) ?_
  refine va_get (D := (dC, dI)) (ci := 3) (v := .int 0) (C := RX3) (T := TX3) (N := 16) hx hb hts hi3 hown hK hP 0 rfl rfl 2 (by decide) hk2 (fun _ h9 => h9) rfl dX3_copyOf_18 ?_
  refine z_put0 (D := (dC, dI)) (ci := 3) (v := .int 0) (ty := .int) (C := RX3) (T := TX3) (N := 16) hx hb hts hi3 tyX3 tyX3_ok nmX3 hown hK hP hD hS 10 rfl rfl 2 (by decide) hk2 (fun _ h9 => h9) rfl (by decide +kernel) rfl rfl rfl dX3_copyOf_21 (fun H locs hP hS => ?_)
  refine lv_aload_n hx hb dX3_copyOf_24 rfl (lv_at hl 0 rfl) ?_
  refine lv_aload_n hx hb dX3_copyOf_25 rfl (lv_at hl 1 rfl) ?_
  refine va_get (D := (dC, dI)) (ci := 3) (v := .int 0) (C := RX3) (T := TX3) (N := 16) hx hb hts hi3 hown hK hP 0 rfl rfl 3 (by decide) hk3 (fun _ h9 => h9) rfl dX3_copyOf_26 ?_
  refine z_put0 (D := (dC, dI)) (ci := 3) (v := .int 0) (ty := .int) (C := RX3) (T := TX3) (N := 16) hx hb hts hi3 tyX3 tyX3_ok nmX3 hown hK hP hD hS 10 rfl rfl 3 (by decide) hk3 (fun _ h9 => h9) rfl (by decide +kernel) rfl rfl rfl dX3_copyOf_29 (fun H locs hP hS => ?_)
  refine lv_aload_n hx hb dX3_copyOf_32 rfl (lv_at hl 0 rfl) ?_
  refine lv_aload_n hx hb dX3_copyOf_33 rfl (lv_at hl 1 rfl) ?_
  refine va_get (D := (dC, dI)) (ci := 3) (v := .int 0) (C := RX3) (T := TX3) (N := 16) hx hb hts hi3 hown hK hP 0 rfl rfl 4 (by decide) hk4 (fun _ h9 => h9) rfl dX3_copyOf_34 ?_
  refine z_put0 (D := (dC, dI)) (ci := 3) (v := .int 0) (ty := .int) (C := RX3) (T := TX3) (N := 16) hx hb hts hi3 tyX3 tyX3_ok nmX3 hown hK hP hD hS 10 rfl rfl 4 (by decide) hk4 (fun _ h9 => h9) rfl (by decide +kernel) rfl rfl rfl dX3_copyOf_37 (fun H locs hP hS => ?_)
  refine lv_aload_n hx hb dX3_copyOf_40 rfl (lv_at hl 0 rfl) ?_
  refine lv_aload_n hx hb dX3_copyOf_41 rfl (lv_at hl 1 rfl) ?_
  refine va_get (D := (dC, dI)) (ci := 3) (v := .int 0) (C := RX3) (T := TX3) (N := 16) hx hb hts hi3 hown hK hP 0 rfl rfl 5 (by decide) hk5 (fun _ h9 => h9) rfl dX3_copyOf_42 ?_
  refine z_put0 (D := (dC, dI)) (ci := 3) (v := .int 0) (ty := .int) (C := RX3) (T := TX3) (N := 16) hx hb hts hi3 tyX3 tyX3_ok nmX3 hown hK hP hD hS 10 rfl rfl 5 (by decide) hk5 (fun _ h9 => h9) rfl (by decide +kernel) rfl rfl rfl dX3_copyOf_45 (fun H locs hP hS => ?_)
  refine lv_aload_n hx hb dX3_copyOf_48 rfl (lv_at hl 0 rfl) ?_
  refine lv_aload_n hx hb dX3_copyOf_49 rfl (lv_at hl 1 rfl) ?_
  refine va_get (D := (dC, dI)) (ci := 3) (v := .int 0) (C := RX3) (T := TX3) (N := 16) hx hb hts hi3 hown hK hP 0 rfl rfl 6 (by decide) hk6 (fun _ h9 => h9) rfl dX3_copyOf_50 ?_
  refine z_put0 (D := (dC, dI)) (ci := 3) (v := .int 0) (ty := .boolean) (C := RX3) (T := TX3) (N := 16) hx hb hts hi3 tyX3 tyX3_ok nmX3 hown hK hP hD hS 10 rfl rfl 6 (by decide) hk6 (fun _ h9 => h9) rfl (by decide +kernel) rfl rfl rfl dX3_copyOf_53 (fun H locs hP hS => ?_)
  refine lv_aload_n hx hb dX3_copyOf_56 rfl (lv_at hl 1 rfl) ?_
  refine va_get (D := (dC, dI)) (ci := 3) (v := .ref (ad 4)) (C := RX3) (T := TX3) (N := 16) hx hb hts hi3 hown hK hP 0 rfl rfl 7 (by decide) hk7 (fun _ h9 => h9) rfl dX3_copyOf_57 ?_
  refine lv_iconst (v := 0) hx hb dX3_copyOf_60 (by decide) ?_
  refine lv_aload_n hx hb dX3_copyOf_61 rfl (lv_at hl 0 rfl) ?_
  refine va_get (D := (dC, dI)) (ci := 3) (v := .ref h1) (C := RX3) (T := TX3) (N := 16) hx hb hts hi3 hown hK hP 10 rfl rfl 7 (by decide) hk7 (fun _ h9 => h9) rfl dX3_copyOf_62 ?_
  refine lv_iconst (v := 0) hx hb dX3_copyOf_65 (by decide) ?_
  refine lv_bipush (v := 6) hx hb dX3_copyOf_66 (by decide) ?_
  refine va_copyi hx hb (by rw [hml]; exact hl.1.symm) hown hk8 hk9 hk10 hk11 hK hP hD hS 1 11 1 1 rfl rfl rfl rfl rfl (by decide) (by decide) (by decide) (by decide) (by decide) (fun _ _ => rfl) (Nat.le_of_ble_eq_true rfl) (Nat.le_of_ble_eq_true rfl) dX3_copyOf_68 (fun H locs hP hD hS => ?_)
  have hP : va_P (dC, dI) vwCl [(ad 3, .inr (3, xf3 ad)), (ad 4, .inl (cI, 6, .inl (fun _ => 0))), (ad 5, .inl (cI, 6, .inl (fun _ => 0))), (ad 6, .inl (cI, 8, .inl (fun _ => 0))), (ad 7, .inl (cI, 8, .inl (fun _ => 0))), (ad 8, .inl (cI, 8, .inl (fun _ => 0))), (ad 9, .inl (cI, 8, .inl (fun _ => 0))), (ad 10, .inl (cI, 13, .inl (fun _ => (-1)))), (ad 11, .inl (cI, 120, .inl (fun _ => 0))), (ad 12, .inl (cI, 120, .inl (fun _ => 0))), (h0, .inr (3, [.int 0, .int 0, .int 0, .int 0, .int 0, .int 0, .int 0, .ref h1, .ref h2, .ref h3, .ref h4, .ref h5, .ref h6, .ref h7, .ref h8, .ref h9])), (h1, .inl (cI, 6, .inl (va_cpy (fun _ => 0) (fun _ => 0) (Int32.toNatClampNeg 0) (Int32.toNatClampNeg 0) (Int32.toNatClampNeg 6)))), (h2, .inl (cI, 6, .inl (fun _ => 0))), (h3, .inl (cI, 8, .inl (fun _ => 0))), (h4, .inl (cI, 8, .inl (fun _ => 0))), (h5, .inl (cI, 8, .inl (fun _ => 0))), (h6, .inl (cI, 8, .inl (fun _ => 0))), (h7, .inl (cI, 13, .inl (fun _ => (-1)))), (h8, .inl (cI, 120, .inl (fun _ => 0))), (h9, .inl (cI, 120, .inl (fun _ => 0)))] H := hP
  have hD : va_D A [(ad 3, .inr (3, xf3 ad)), (ad 4, .inl (cI, 6, .inl (fun _ => 0))), (ad 5, .inl (cI, 6, .inl (fun _ => 0))), (ad 6, .inl (cI, 8, .inl (fun _ => 0))), (ad 7, .inl (cI, 8, .inl (fun _ => 0))), (ad 8, .inl (cI, 8, .inl (fun _ => 0))), (ad 9, .inl (cI, 8, .inl (fun _ => 0))), (ad 10, .inl (cI, 13, .inl (fun _ => (-1)))), (ad 11, .inl (cI, 120, .inl (fun _ => 0))), (ad 12, .inl (cI, 120, .inl (fun _ => 0))), (h0, .inr (3, [.int 0, .int 0, .int 0, .int 0, .int 0, .int 0, .int 0, .ref h1, .ref h2, .ref h3, .ref h4, .ref h5, .ref h6, .ref h7, .ref h8, .ref h9])), (h1, .inl (cI, 6, .inl (va_cpy (fun _ => 0) (fun _ => 0) (Int32.toNatClampNeg 0) (Int32.toNatClampNeg 0) (Int32.toNatClampNeg 6)))), (h2, .inl (cI, 6, .inl (fun _ => 0))), (h3, .inl (cI, 8, .inl (fun _ => 0))), (h4, .inl (cI, 8, .inl (fun _ => 0))), (h5, .inl (cI, 8, .inl (fun _ => 0))), (h6, .inl (cI, 8, .inl (fun _ => 0))), (h7, .inl (cI, 13, .inl (fun _ => (-1)))), (h8, .inl (cI, 120, .inl (fun _ => 0))), (h9, .inl (cI, 120, .inl (fun _ => 0)))] := hD
  refine lv_aload_n hx hb dX3_copyOf_71 rfl (lv_at hl 1 rfl) ?_
  refine va_get (D := (dC, dI)) (ci := 3) (v := .ref (ad 5)) (C := RX3) (T := TX3) (N := 16) hx hb hts hi3 hown hK hP 0 rfl rfl 8 (by decide) hk12 (fun _ h9 => h9) rfl dX3_copyOf_72 ?_
  refine lv_iconst (v := 0) hx hb dX3_copyOf_75 (by decide) ?_
  refine lv_aload_n hx hb dX3_copyOf_76 rfl (lv_at hl 0 rfl) ?_
  refine va_get (D := (dC, dI)) (ci := 3) (v := .ref h2) (C := RX3) (T := TX3) (N := 16) hx hb hts hi3 hown hK hP 10 rfl rfl 8 (by decide) hk12 (fun _ h9 => h9) rfl dX3_copyOf_77 ?_
  refine lv_iconst (v := 0) hx hb dX3_copyOf_80 (by decide) ?_
  refine lv_bipush (v := 6) hx hb dX3_copyOf_81 (by decide) ?_
  refine va_copyi hx hb (by rw [hml]; exact hl.1.symm) hown hk8 hk9 hk10 hk11 hK hP hD hS 2 12 1 1 rfl rfl rfl rfl rfl (by decide) (by decide) (by decide) (by decide) (by decide) (fun _ _ => rfl) (Nat.le_of_ble_eq_true rfl) (Nat.le_of_ble_eq_true rfl) dX3_copyOf_83 (fun H locs hP hD hS => ?_)
  have hP : va_P (dC, dI) vwCl [(ad 3, .inr (3, xf3 ad)), (ad 4, .inl (cI, 6, .inl (fun _ => 0))), (ad 5, .inl (cI, 6, .inl (fun _ => 0))), (ad 6, .inl (cI, 8, .inl (fun _ => 0))), (ad 7, .inl (cI, 8, .inl (fun _ => 0))), (ad 8, .inl (cI, 8, .inl (fun _ => 0))), (ad 9, .inl (cI, 8, .inl (fun _ => 0))), (ad 10, .inl (cI, 13, .inl (fun _ => (-1)))), (ad 11, .inl (cI, 120, .inl (fun _ => 0))), (ad 12, .inl (cI, 120, .inl (fun _ => 0))), (h0, .inr (3, [.int 0, .int 0, .int 0, .int 0, .int 0, .int 0, .int 0, .ref h1, .ref h2, .ref h3, .ref h4, .ref h5, .ref h6, .ref h7, .ref h8, .ref h9])), (h1, .inl (cI, 6, .inl (va_cpy (fun _ => 0) (fun _ => 0) (Int32.toNatClampNeg 0) (Int32.toNatClampNeg 0) (Int32.toNatClampNeg 6)))), (h2, .inl (cI, 6, .inl (va_cpy (fun _ => 0) (fun _ => 0) (Int32.toNatClampNeg 0) (Int32.toNatClampNeg 0) (Int32.toNatClampNeg 6)))), (h3, .inl (cI, 8, .inl (fun _ => 0))), (h4, .inl (cI, 8, .inl (fun _ => 0))), (h5, .inl (cI, 8, .inl (fun _ => 0))), (h6, .inl (cI, 8, .inl (fun _ => 0))), (h7, .inl (cI, 13, .inl (fun _ => (-1)))), (h8, .inl (cI, 120, .inl (fun _ => 0))), (h9, .inl (cI, 120, .inl (fun _ => 0)))] H := hP
  have hD : va_D A [(ad 3, .inr (3, xf3 ad)), (ad 4, .inl (cI, 6, .inl (fun _ => 0))), (ad 5, .inl (cI, 6, .inl (fun _ => 0))), (ad 6, .inl (cI, 8, .inl (fun _ => 0))), (ad 7, .inl (cI, 8, .inl (fun _ => 0))), (ad 8, .inl (cI, 8, .inl (fun _ => 0))), (ad 9, .inl (cI, 8, .inl (fun _ => 0))), (ad 10, .inl (cI, 13, .inl (fun _ => (-1)))), (ad 11, .inl (cI, 120, .inl (fun _ => 0))), (ad 12, .inl (cI, 120, .inl (fun _ => 0))), (h0, .inr (3, [.int 0, .int 0, .int 0, .int 0, .int 0, .int 0, .int 0, .ref h1, .ref h2, .ref h3, .ref h4, .ref h5, .ref h6, .ref h7, .ref h8, .ref h9])), (h1, .inl (cI, 6, .inl (va_cpy (fun _ => 0) (fun _ => 0) (Int32.toNatClampNeg 0) (Int32.toNatClampNeg 0) (Int32.toNatClampNeg 6)))), (h2, .inl (cI, 6, .inl (va_cpy (fun _ => 0) (fun _ => 0) (Int32.toNatClampNeg 0) (Int32.toNatClampNeg 0) (Int32.toNatClampNeg 6)))), (h3, .inl (cI, 8, .inl (fun _ => 0))), (h4, .inl (cI, 8, .inl (fun _ => 0))), (h5, .inl (cI, 8, .inl (fun _ => 0))), (h6, .inl (cI, 8, .inl (fun _ => 0))), (h7, .inl (cI, 13, .inl (fun _ => (-1)))), (h8, .inl (cI, 120, .inl (fun _ => 0))), (h9, .inl (cI, 120, .inl (fun _ => 0)))] := hD
  refine lv_aload_n hx hb dX3_copyOf_86 rfl (lv_at hl 1 rfl) ?_
  refine va_get (D := (dC, dI)) (ci := 3) (v := .ref (ad 6)) (C := RX3) (T := TX3) (N := 16) hx hb hts hi3 hown hK hP 0 rfl rfl 9 (by decide) hk13 (fun _ h9 => h9) rfl dX3_copyOf_87 ?_
  refine lv_iconst (v := 0) hx hb dX3_copyOf_90 (by decide) ?_
  refine lv_aload_n hx hb dX3_copyOf_91 rfl (lv_at hl 0 rfl) ?_
  refine va_get (D := (dC, dI)) (ci := 3) (v := .ref h3) (C := RX3) (T := TX3) (N := 16) hx hb hts hi3 hown hK hP 10 rfl rfl 9 (by decide) hk13 (fun _ h9 => h9) rfl dX3_copyOf_92 ?_
  refine lv_iconst (v := 0) hx hb dX3_copyOf_95 (by decide) ?_
  refine lv_bipush (v := 8) hx hb dX3_copyOf_96 (by decide) ?_
  refine va_copyi hx hb (by rw [hml]; exact hl.1.symm) hown hk8 hk9 hk10 hk11 hK hP hD hS 3 13 1 1 rfl rfl rfl rfl rfl (by decide) (by decide) (by decide) (by decide) (by decide) (fun _ _ => rfl) (Nat.le_of_ble_eq_true rfl) (Nat.le_of_ble_eq_true rfl) dX3_copyOf_98 (fun H locs hP hD hS => ?_)
  have hP : va_P (dC, dI) vwCl [(ad 3, .inr (3, xf3 ad)), (ad 4, .inl (cI, 6, .inl (fun _ => 0))), (ad 5, .inl (cI, 6, .inl (fun _ => 0))), (ad 6, .inl (cI, 8, .inl (fun _ => 0))), (ad 7, .inl (cI, 8, .inl (fun _ => 0))), (ad 8, .inl (cI, 8, .inl (fun _ => 0))), (ad 9, .inl (cI, 8, .inl (fun _ => 0))), (ad 10, .inl (cI, 13, .inl (fun _ => (-1)))), (ad 11, .inl (cI, 120, .inl (fun _ => 0))), (ad 12, .inl (cI, 120, .inl (fun _ => 0))), (h0, .inr (3, [.int 0, .int 0, .int 0, .int 0, .int 0, .int 0, .int 0, .ref h1, .ref h2, .ref h3, .ref h4, .ref h5, .ref h6, .ref h7, .ref h8, .ref h9])), (h1, .inl (cI, 6, .inl (va_cpy (fun _ => 0) (fun _ => 0) (Int32.toNatClampNeg 0) (Int32.toNatClampNeg 0) (Int32.toNatClampNeg 6)))), (h2, .inl (cI, 6, .inl (va_cpy (fun _ => 0) (fun _ => 0) (Int32.toNatClampNeg 0) (Int32.toNatClampNeg 0) (Int32.toNatClampNeg 6)))), (h3, .inl (cI, 8, .inl (va_cpy (fun _ => 0) (fun _ => 0) (Int32.toNatClampNeg 0) (Int32.toNatClampNeg 0) (Int32.toNatClampNeg 8)))), (h4, .inl (cI, 8, .inl (fun _ => 0))), (h5, .inl (cI, 8, .inl (fun _ => 0))), (h6, .inl (cI, 8, .inl (fun _ => 0))), (h7, .inl (cI, 13, .inl (fun _ => (-1)))), (h8, .inl (cI, 120, .inl (fun _ => 0))), (h9, .inl (cI, 120, .inl (fun _ => 0)))] H := hP
  have hD : va_D A [(ad 3, .inr (3, xf3 ad)), (ad 4, .inl (cI, 6, .inl (fun _ => 0))), (ad 5, .inl (cI, 6, .inl (fun _ => 0))), (ad 6, .inl (cI, 8, .inl (fun _ => 0))), (ad 7, .inl (cI, 8, .inl (fun _ => 0))), (ad 8, .inl (cI, 8, .inl (fun _ => 0))), (ad 9, .inl (cI, 8, .inl (fun _ => 0))), (ad 10, .inl (cI, 13, .inl (fun _ => (-1)))), (ad 11, .inl (cI, 120, .inl (fun _ => 0))), (ad 12, .inl (cI, 120, .inl (fun _ => 0))), (h0, .inr (3, [.int 0, .int 0, .int 0, .int 0, .int 0, .int 0, .int 0, .ref h1, .ref h2, .ref h3, .ref h4, .ref h5, .ref h6, .ref h7, .ref h8, .ref h9])), (h1, .inl (cI, 6, .inl (va_cpy (fun _ => 0) (fun _ => 0) (Int32.toNatClampNeg 0) (Int32.toNatClampNeg 0) (Int32.toNatClampNeg 6)))), (h2, .inl (cI, 6, .inl (va_cpy (fun _ => 0) (fun _ => 0) (Int32.toNatClampNeg 0) (Int32.toNatClampNeg 0) (Int32.toNatClampNeg 6)))), (h3, .inl (cI, 8, .inl (va_cpy (fun _ => 0) (fun _ => 0) (Int32.toNatClampNeg 0) (Int32.toNatClampNeg 0) (Int32.toNatClampNeg 8)))), (h4, .inl (cI, 8, .inl (fun _ => 0))), (h5, .inl (cI, 8, .inl (fun _ => 0))), (h6, .inl (cI, 8, .inl (fun _ => 0))), (h7, .inl (cI, 13, .inl (fun _ => (-1)))), (h8, .inl (cI, 120, .inl (fun _ => 0))), (h9, .inl (cI, 120, .inl (fun _ => 0)))] := hD
  refine lv_aload_n hx hb dX3_copyOf_101 rfl (lv_at hl 1 rfl) ?_
  refine va_get (D := (dC, dI)) (ci := 3) (v := .ref (ad 7)) (C := RX3) (T := TX3) (N := 16) hx hb hts hi3 hown hK hP 0 rfl rfl 10 (by decide) hk14 (fun _ h9 => h9) rfl dX3_copyOf_102 ?_
  refine lv_iconst (v := 0) hx hb dX3_copyOf_105 (by decide) ?_
  refine lv_aload_n hx hb dX3_copyOf_106 rfl (lv_at hl 0 rfl) ?_
  refine va_get (D := (dC, dI)) (ci := 3) (v := .ref h4) (C := RX3) (T := TX3) (N := 16) hx hb hts hi3 hown hK hP 10 rfl rfl 10 (by decide) hk14 (fun _ h9 => h9) rfl dX3_copyOf_107 ?_
  refine lv_iconst (v := 0) hx hb dX3_copyOf_110 (by decide) ?_
  refine lv_bipush (v := 8) hx hb dX3_copyOf_111 (by decide) ?_
  refine va_copyi hx hb (by rw [hml]; exact hl.1.symm) hown hk8 hk9 hk10 hk11 hK hP hD hS 4 14 1 1 rfl rfl rfl rfl rfl (by decide) (by decide) (by decide) (by decide) (by decide) (fun _ _ => rfl) (Nat.le_of_ble_eq_true rfl) (Nat.le_of_ble_eq_true rfl) dX3_copyOf_113 (fun H locs hP hD hS => ?_)
  have hP : va_P (dC, dI) vwCl [(ad 3, .inr (3, xf3 ad)), (ad 4, .inl (cI, 6, .inl (fun _ => 0))), (ad 5, .inl (cI, 6, .inl (fun _ => 0))), (ad 6, .inl (cI, 8, .inl (fun _ => 0))), (ad 7, .inl (cI, 8, .inl (fun _ => 0))), (ad 8, .inl (cI, 8, .inl (fun _ => 0))), (ad 9, .inl (cI, 8, .inl (fun _ => 0))), (ad 10, .inl (cI, 13, .inl (fun _ => (-1)))), (ad 11, .inl (cI, 120, .inl (fun _ => 0))), (ad 12, .inl (cI, 120, .inl (fun _ => 0))), (h0, .inr (3, [.int 0, .int 0, .int 0, .int 0, .int 0, .int 0, .int 0, .ref h1, .ref h2, .ref h3, .ref h4, .ref h5, .ref h6, .ref h7, .ref h8, .ref h9])), (h1, .inl (cI, 6, .inl (va_cpy (fun _ => 0) (fun _ => 0) (Int32.toNatClampNeg 0) (Int32.toNatClampNeg 0) (Int32.toNatClampNeg 6)))), (h2, .inl (cI, 6, .inl (va_cpy (fun _ => 0) (fun _ => 0) (Int32.toNatClampNeg 0) (Int32.toNatClampNeg 0) (Int32.toNatClampNeg 6)))), (h3, .inl (cI, 8, .inl (va_cpy (fun _ => 0) (fun _ => 0) (Int32.toNatClampNeg 0) (Int32.toNatClampNeg 0) (Int32.toNatClampNeg 8)))), (h4, .inl (cI, 8, .inl (va_cpy (fun _ => 0) (fun _ => 0) (Int32.toNatClampNeg 0) (Int32.toNatClampNeg 0) (Int32.toNatClampNeg 8)))), (h5, .inl (cI, 8, .inl (fun _ => 0))), (h6, .inl (cI, 8, .inl (fun _ => 0))), (h7, .inl (cI, 13, .inl (fun _ => (-1)))), (h8, .inl (cI, 120, .inl (fun _ => 0))), (h9, .inl (cI, 120, .inl (fun _ => 0)))] H := hP
  have hD : va_D A [(ad 3, .inr (3, xf3 ad)), (ad 4, .inl (cI, 6, .inl (fun _ => 0))), (ad 5, .inl (cI, 6, .inl (fun _ => 0))), (ad 6, .inl (cI, 8, .inl (fun _ => 0))), (ad 7, .inl (cI, 8, .inl (fun _ => 0))), (ad 8, .inl (cI, 8, .inl (fun _ => 0))), (ad 9, .inl (cI, 8, .inl (fun _ => 0))), (ad 10, .inl (cI, 13, .inl (fun _ => (-1)))), (ad 11, .inl (cI, 120, .inl (fun _ => 0))), (ad 12, .inl (cI, 120, .inl (fun _ => 0))), (h0, .inr (3, [.int 0, .int 0, .int 0, .int 0, .int 0, .int 0, .int 0, .ref h1, .ref h2, .ref h3, .ref h4, .ref h5, .ref h6, .ref h7, .ref h8, .ref h9])), (h1, .inl (cI, 6, .inl (va_cpy (fun _ => 0) (fun _ => 0) (Int32.toNatClampNeg 0) (Int32.toNatClampNeg 0) (Int32.toNatClampNeg 6)))), (h2, .inl (cI, 6, .inl (va_cpy (fun _ => 0) (fun _ => 0) (Int32.toNatClampNeg 0) (Int32.toNatClampNeg 0) (Int32.toNatClampNeg 6)))), (h3, .inl (cI, 8, .inl (va_cpy (fun _ => 0) (fun _ => 0) (Int32.toNatClampNeg 0) (Int32.toNatClampNeg 0) (Int32.toNatClampNeg 8)))), (h4, .inl (cI, 8, .inl (va_cpy (fun _ => 0) (fun _ => 0) (Int32.toNatClampNeg 0) (Int32.toNatClampNeg 0) (Int32.toNatClampNeg 8)))), (h5, .inl (cI, 8, .inl (fun _ => 0))), (h6, .inl (cI, 8, .inl (fun _ => 0))), (h7, .inl (cI, 13, .inl (fun _ => (-1)))), (h8, .inl (cI, 120, .inl (fun _ => 0))), (h9, .inl (cI, 120, .inl (fun _ => 0)))] := hD
  refine lv_aload_n hx hb dX3_copyOf_116 rfl (lv_at hl 1 rfl) ?_
  refine va_get (D := (dC, dI)) (ci := 3) (v := .ref (ad 8)) (C := RX3) (T := TX3) (N := 16) hx hb hts hi3 hown hK hP 0 rfl rfl 11 (by decide) hk15 (fun _ h9 => h9) rfl dX3_copyOf_117 ?_
  refine lv_iconst (v := 0) hx hb dX3_copyOf_120 (by decide) ?_
  refine lv_aload_n hx hb dX3_copyOf_121 rfl (lv_at hl 0 rfl) ?_
  refine va_get (D := (dC, dI)) (ci := 3) (v := .ref h5) (C := RX3) (T := TX3) (N := 16) hx hb hts hi3 hown hK hP 10 rfl rfl 11 (by decide) hk15 (fun _ h9 => h9) rfl dX3_copyOf_122 ?_
  refine lv_iconst (v := 0) hx hb dX3_copyOf_125 (by decide) ?_
  refine lv_bipush (v := 8) hx hb dX3_copyOf_126 (by decide) ?_
  refine va_copyi hx hb (by rw [hml]; exact hl.1.symm) hown hk8 hk9 hk10 hk11 hK hP hD hS 5 15 1 1 rfl rfl rfl rfl rfl (by decide) (by decide) (by decide) (by decide) (by decide) (fun _ _ => rfl) (Nat.le_of_ble_eq_true rfl) (Nat.le_of_ble_eq_true rfl) dX3_copyOf_128 (fun H locs hP hD hS => ?_)
  have hP : va_P (dC, dI) vwCl [(ad 3, .inr (3, xf3 ad)), (ad 4, .inl (cI, 6, .inl (fun _ => 0))), (ad 5, .inl (cI, 6, .inl (fun _ => 0))), (ad 6, .inl (cI, 8, .inl (fun _ => 0))), (ad 7, .inl (cI, 8, .inl (fun _ => 0))), (ad 8, .inl (cI, 8, .inl (fun _ => 0))), (ad 9, .inl (cI, 8, .inl (fun _ => 0))), (ad 10, .inl (cI, 13, .inl (fun _ => (-1)))), (ad 11, .inl (cI, 120, .inl (fun _ => 0))), (ad 12, .inl (cI, 120, .inl (fun _ => 0))), (h0, .inr (3, [.int 0, .int 0, .int 0, .int 0, .int 0, .int 0, .int 0, .ref h1, .ref h2, .ref h3, .ref h4, .ref h5, .ref h6, .ref h7, .ref h8, .ref h9])), (h1, .inl (cI, 6, .inl (va_cpy (fun _ => 0) (fun _ => 0) (Int32.toNatClampNeg 0) (Int32.toNatClampNeg 0) (Int32.toNatClampNeg 6)))), (h2, .inl (cI, 6, .inl (va_cpy (fun _ => 0) (fun _ => 0) (Int32.toNatClampNeg 0) (Int32.toNatClampNeg 0) (Int32.toNatClampNeg 6)))), (h3, .inl (cI, 8, .inl (va_cpy (fun _ => 0) (fun _ => 0) (Int32.toNatClampNeg 0) (Int32.toNatClampNeg 0) (Int32.toNatClampNeg 8)))), (h4, .inl (cI, 8, .inl (va_cpy (fun _ => 0) (fun _ => 0) (Int32.toNatClampNeg 0) (Int32.toNatClampNeg 0) (Int32.toNatClampNeg 8)))), (h5, .inl (cI, 8, .inl (va_cpy (fun _ => 0) (fun _ => 0) (Int32.toNatClampNeg 0) (Int32.toNatClampNeg 0) (Int32.toNatClampNeg 8)))), (h6, .inl (cI, 8, .inl (fun _ => 0))), (h7, .inl (cI, 13, .inl (fun _ => (-1)))), (h8, .inl (cI, 120, .inl (fun _ => 0))), (h9, .inl (cI, 120, .inl (fun _ => 0)))] H := hP
  have hD : va_D A [(ad 3, .inr (3, xf3 ad)), (ad 4, .inl (cI, 6, .inl (fun _ => 0))), (ad 5, .inl (cI, 6, .inl (fun _ => 0))), (ad 6, .inl (cI, 8, .inl (fun _ => 0))), (ad 7, .inl (cI, 8, .inl (fun _ => 0))), (ad 8, .inl (cI, 8, .inl (fun _ => 0))), (ad 9, .inl (cI, 8, .inl (fun _ => 0))), (ad 10, .inl (cI, 13, .inl (fun _ => (-1)))), (ad 11, .inl (cI, 120, .inl (fun _ => 0))), (ad 12, .inl (cI, 120, .inl (fun _ => 0))), (h0, .inr (3, [.int 0, .int 0, .int 0, .int 0, .int 0, .int 0, .int 0, .ref h1, .ref h2, .ref h3, .ref h4, .ref h5, .ref h6, .ref h7, .ref h8, .ref h9])), (h1, .inl (cI, 6, .inl (va_cpy (fun _ => 0) (fun _ => 0) (Int32.toNatClampNeg 0) (Int32.toNatClampNeg 0) (Int32.toNatClampNeg 6)))), (h2, .inl (cI, 6, .inl (va_cpy (fun _ => 0) (fun _ => 0) (Int32.toNatClampNeg 0) (Int32.toNatClampNeg 0) (Int32.toNatClampNeg 6)))), (h3, .inl (cI, 8, .inl (va_cpy (fun _ => 0) (fun _ => 0) (Int32.toNatClampNeg 0) (Int32.toNatClampNeg 0) (Int32.toNatClampNeg 8)))), (h4, .inl (cI, 8, .inl (va_cpy (fun _ => 0) (fun _ => 0) (Int32.toNatClampNeg 0) (Int32.toNatClampNeg 0) (Int32.toNatClampNeg 8)))), (h5, .inl (cI, 8, .inl (va_cpy (fun _ => 0) (fun _ => 0) (Int32.toNatClampNeg 0) (Int32.toNatClampNeg 0) (Int32.toNatClampNeg 8)))), (h6, .inl (cI, 8, .inl (fun _ => 0))), (h7, .inl (cI, 13, .inl (fun _ => (-1)))), (h8, .inl (cI, 120, .inl (fun _ => 0))), (h9, .inl (cI, 120, .inl (fun _ => 0)))] := hD
  refine lv_aload_n hx hb dX3_copyOf_131 rfl (lv_at hl 1 rfl) ?_
  refine va_get (D := (dC, dI)) (ci := 3) (v := .ref (ad 9)) (C := RX3) (T := TX3) (N := 16) hx hb hts hi3 hown hK hP 0 rfl rfl 12 (by decide) hk16 (fun _ h9 => h9) rfl dX3_copyOf_132 ?_
  refine lv_iconst (v := 0) hx hb dX3_copyOf_135 (by decide) ?_
  refine lv_aload_n hx hb dX3_copyOf_136 rfl (lv_at hl 0 rfl) ?_
  refine va_get (D := (dC, dI)) (ci := 3) (v := .ref h6) (C := RX3) (T := TX3) (N := 16) hx hb hts hi3 hown hK hP 10 rfl rfl 12 (by decide) hk16 (fun _ h9 => h9) rfl dX3_copyOf_137 ?_
  refine lv_iconst (v := 0) hx hb dX3_copyOf_140 (by decide) ?_
  refine lv_bipush (v := 8) hx hb dX3_copyOf_141 (by decide) ?_
  refine va_copyi hx hb (by rw [hml]; exact hl.1.symm) hown hk8 hk9 hk10 hk11 hK hP hD hS 6 16 1 1 rfl rfl rfl rfl rfl (by decide) (by decide) (by decide) (by decide) (by decide) (fun _ _ => rfl) (Nat.le_of_ble_eq_true rfl) (Nat.le_of_ble_eq_true rfl) dX3_copyOf_143 (fun H locs hP hD hS => ?_)
  have hP : va_P (dC, dI) vwCl [(ad 3, .inr (3, xf3 ad)), (ad 4, .inl (cI, 6, .inl (fun _ => 0))), (ad 5, .inl (cI, 6, .inl (fun _ => 0))), (ad 6, .inl (cI, 8, .inl (fun _ => 0))), (ad 7, .inl (cI, 8, .inl (fun _ => 0))), (ad 8, .inl (cI, 8, .inl (fun _ => 0))), (ad 9, .inl (cI, 8, .inl (fun _ => 0))), (ad 10, .inl (cI, 13, .inl (fun _ => (-1)))), (ad 11, .inl (cI, 120, .inl (fun _ => 0))), (ad 12, .inl (cI, 120, .inl (fun _ => 0))), (h0, .inr (3, [.int 0, .int 0, .int 0, .int 0, .int 0, .int 0, .int 0, .ref h1, .ref h2, .ref h3, .ref h4, .ref h5, .ref h6, .ref h7, .ref h8, .ref h9])), (h1, .inl (cI, 6, .inl (va_cpy (fun _ => 0) (fun _ => 0) (Int32.toNatClampNeg 0) (Int32.toNatClampNeg 0) (Int32.toNatClampNeg 6)))), (h2, .inl (cI, 6, .inl (va_cpy (fun _ => 0) (fun _ => 0) (Int32.toNatClampNeg 0) (Int32.toNatClampNeg 0) (Int32.toNatClampNeg 6)))), (h3, .inl (cI, 8, .inl (va_cpy (fun _ => 0) (fun _ => 0) (Int32.toNatClampNeg 0) (Int32.toNatClampNeg 0) (Int32.toNatClampNeg 8)))), (h4, .inl (cI, 8, .inl (va_cpy (fun _ => 0) (fun _ => 0) (Int32.toNatClampNeg 0) (Int32.toNatClampNeg 0) (Int32.toNatClampNeg 8)))), (h5, .inl (cI, 8, .inl (va_cpy (fun _ => 0) (fun _ => 0) (Int32.toNatClampNeg 0) (Int32.toNatClampNeg 0) (Int32.toNatClampNeg 8)))), (h6, .inl (cI, 8, .inl (va_cpy (fun _ => 0) (fun _ => 0) (Int32.toNatClampNeg 0) (Int32.toNatClampNeg 0) (Int32.toNatClampNeg 8)))), (h7, .inl (cI, 13, .inl (fun _ => (-1)))), (h8, .inl (cI, 120, .inl (fun _ => 0))), (h9, .inl (cI, 120, .inl (fun _ => 0)))] H := hP
  have hD : va_D A [(ad 3, .inr (3, xf3 ad)), (ad 4, .inl (cI, 6, .inl (fun _ => 0))), (ad 5, .inl (cI, 6, .inl (fun _ => 0))), (ad 6, .inl (cI, 8, .inl (fun _ => 0))), (ad 7, .inl (cI, 8, .inl (fun _ => 0))), (ad 8, .inl (cI, 8, .inl (fun _ => 0))), (ad 9, .inl (cI, 8, .inl (fun _ => 0))), (ad 10, .inl (cI, 13, .inl (fun _ => (-1)))), (ad 11, .inl (cI, 120, .inl (fun _ => 0))), (ad 12, .inl (cI, 120, .inl (fun _ => 0))), (h0, .inr (3, [.int 0, .int 0, .int 0, .int 0, .int 0, .int 0, .int 0, .ref h1, .ref h2, .ref h3, .ref h4, .ref h5, .ref h6, .ref h7, .ref h8, .ref h9])), (h1, .inl (cI, 6, .inl (va_cpy (fun _ => 0) (fun _ => 0) (Int32.toNatClampNeg 0) (Int32.toNatClampNeg 0) (Int32.toNatClampNeg 6)))), (h2, .inl (cI, 6, .inl (va_cpy (fun _ => 0) (fun _ => 0) (Int32.toNatClampNeg 0) (Int32.toNatClampNeg 0) (Int32.toNatClampNeg 6)))), (h3, .inl (cI, 8, .inl (va_cpy (fun _ => 0) (fun _ => 0) (Int32.toNatClampNeg 0) (Int32.toNatClampNeg 0) (Int32.toNatClampNeg 8)))), (h4, .inl (cI, 8, .inl (va_cpy (fun _ => 0) (fun _ => 0) (Int32.toNatClampNeg 0) (Int32.toNatClampNeg 0) (Int32.toNatClampNeg 8)))), (h5, .inl (cI, 8, .inl (va_cpy (fun _ => 0) (fun _ => 0) (Int32.toNatClampNeg 0) (Int32.toNatClampNeg 0) (Int32.toNatClampNeg 8)))), (h6, .inl (cI, 8, .inl (va_cpy (fun _ => 0) (fun _ => 0) (Int32.toNatClampNeg 0) (Int32.toNatClampNeg 0) (Int32.toNatClampNeg 8)))), (h7, .inl (cI, 13, .inl (fun _ => (-1)))), (h8, .inl (cI, 120, .inl (fun _ => 0))), (h9, .inl (cI, 120, .inl (fun _ => 0)))] := hD
  refine lv_aload_n hx hb dX3_copyOf_146 rfl (lv_at hl 1 rfl) ?_
  refine va_get (D := (dC, dI)) (ci := 3) (v := .ref (ad 10)) (C := RX3) (T := TX3) (N := 16) hx hb hts hi3 hown hK hP 0 rfl rfl 13 (by decide) hk17 (fun _ h9 => h9) rfl dX3_copyOf_147 ?_
  refine lv_iconst (v := 0) hx hb dX3_copyOf_150 (by decide) ?_
  refine lv_aload_n hx hb dX3_copyOf_151 rfl (lv_at hl 0 rfl) ?_
  refine va_get (D := (dC, dI)) (ci := 3) (v := .ref h7) (C := RX3) (T := TX3) (N := 16) hx hb hts hi3 hown hK hP 10 rfl rfl 13 (by decide) hk17 (fun _ h9 => h9) rfl dX3_copyOf_152 ?_
  refine lv_iconst (v := 0) hx hb dX3_copyOf_155 (by decide) ?_
  refine lv_bipush (v := 13) hx hb dX3_copyOf_156 (by decide) ?_
  refine va_copyi hx hb (by rw [hml]; exact hl.1.symm) hown hk8 hk9 hk10 hk11 hK hP hD hS 7 17 1 1 rfl rfl rfl rfl rfl (by decide) (by decide) (by decide) (by decide) (by decide) (fun _ _ => rfl) (Nat.le_of_ble_eq_true rfl) (Nat.le_of_ble_eq_true rfl) dX3_copyOf_158 (fun H locs hP hD hS => ?_)
  have hP : va_P (dC, dI) vwCl [(ad 3, .inr (3, xf3 ad)), (ad 4, .inl (cI, 6, .inl (fun _ => 0))), (ad 5, .inl (cI, 6, .inl (fun _ => 0))), (ad 6, .inl (cI, 8, .inl (fun _ => 0))), (ad 7, .inl (cI, 8, .inl (fun _ => 0))), (ad 8, .inl (cI, 8, .inl (fun _ => 0))), (ad 9, .inl (cI, 8, .inl (fun _ => 0))), (ad 10, .inl (cI, 13, .inl (fun _ => (-1)))), (ad 11, .inl (cI, 120, .inl (fun _ => 0))), (ad 12, .inl (cI, 120, .inl (fun _ => 0))), (h0, .inr (3, [.int 0, .int 0, .int 0, .int 0, .int 0, .int 0, .int 0, .ref h1, .ref h2, .ref h3, .ref h4, .ref h5, .ref h6, .ref h7, .ref h8, .ref h9])), (h1, .inl (cI, 6, .inl (va_cpy (fun _ => 0) (fun _ => 0) (Int32.toNatClampNeg 0) (Int32.toNatClampNeg 0) (Int32.toNatClampNeg 6)))), (h2, .inl (cI, 6, .inl (va_cpy (fun _ => 0) (fun _ => 0) (Int32.toNatClampNeg 0) (Int32.toNatClampNeg 0) (Int32.toNatClampNeg 6)))), (h3, .inl (cI, 8, .inl (va_cpy (fun _ => 0) (fun _ => 0) (Int32.toNatClampNeg 0) (Int32.toNatClampNeg 0) (Int32.toNatClampNeg 8)))), (h4, .inl (cI, 8, .inl (va_cpy (fun _ => 0) (fun _ => 0) (Int32.toNatClampNeg 0) (Int32.toNatClampNeg 0) (Int32.toNatClampNeg 8)))), (h5, .inl (cI, 8, .inl (va_cpy (fun _ => 0) (fun _ => 0) (Int32.toNatClampNeg 0) (Int32.toNatClampNeg 0) (Int32.toNatClampNeg 8)))), (h6, .inl (cI, 8, .inl (va_cpy (fun _ => 0) (fun _ => 0) (Int32.toNatClampNeg 0) (Int32.toNatClampNeg 0) (Int32.toNatClampNeg 8)))), (h7, .inl (cI, 13, .inl (va_cpy (fun _ => (-1)) (fun _ => (-1)) (Int32.toNatClampNeg 0) (Int32.toNatClampNeg 0) (Int32.toNatClampNeg 13)))), (h8, .inl (cI, 120, .inl (fun _ => 0))), (h9, .inl (cI, 120, .inl (fun _ => 0)))] H := hP
  have hD : va_D A [(ad 3, .inr (3, xf3 ad)), (ad 4, .inl (cI, 6, .inl (fun _ => 0))), (ad 5, .inl (cI, 6, .inl (fun _ => 0))), (ad 6, .inl (cI, 8, .inl (fun _ => 0))), (ad 7, .inl (cI, 8, .inl (fun _ => 0))), (ad 8, .inl (cI, 8, .inl (fun _ => 0))), (ad 9, .inl (cI, 8, .inl (fun _ => 0))), (ad 10, .inl (cI, 13, .inl (fun _ => (-1)))), (ad 11, .inl (cI, 120, .inl (fun _ => 0))), (ad 12, .inl (cI, 120, .inl (fun _ => 0))), (h0, .inr (3, [.int 0, .int 0, .int 0, .int 0, .int 0, .int 0, .int 0, .ref h1, .ref h2, .ref h3, .ref h4, .ref h5, .ref h6, .ref h7, .ref h8, .ref h9])), (h1, .inl (cI, 6, .inl (va_cpy (fun _ => 0) (fun _ => 0) (Int32.toNatClampNeg 0) (Int32.toNatClampNeg 0) (Int32.toNatClampNeg 6)))), (h2, .inl (cI, 6, .inl (va_cpy (fun _ => 0) (fun _ => 0) (Int32.toNatClampNeg 0) (Int32.toNatClampNeg 0) (Int32.toNatClampNeg 6)))), (h3, .inl (cI, 8, .inl (va_cpy (fun _ => 0) (fun _ => 0) (Int32.toNatClampNeg 0) (Int32.toNatClampNeg 0) (Int32.toNatClampNeg 8)))), (h4, .inl (cI, 8, .inl (va_cpy (fun _ => 0) (fun _ => 0) (Int32.toNatClampNeg 0) (Int32.toNatClampNeg 0) (Int32.toNatClampNeg 8)))), (h5, .inl (cI, 8, .inl (va_cpy (fun _ => 0) (fun _ => 0) (Int32.toNatClampNeg 0) (Int32.toNatClampNeg 0) (Int32.toNatClampNeg 8)))), (h6, .inl (cI, 8, .inl (va_cpy (fun _ => 0) (fun _ => 0) (Int32.toNatClampNeg 0) (Int32.toNatClampNeg 0) (Int32.toNatClampNeg 8)))), (h7, .inl (cI, 13, .inl (va_cpy (fun _ => (-1)) (fun _ => (-1)) (Int32.toNatClampNeg 0) (Int32.toNatClampNeg 0) (Int32.toNatClampNeg 13)))), (h8, .inl (cI, 120, .inl (fun _ => 0))), (h9, .inl (cI, 120, .inl (fun _ => 0)))] := hD
  refine lv_aload_n hx hb dX3_copyOf_161 rfl (lv_at hl 1 rfl) ?_
  refine va_get (D := (dC, dI)) (ci := 3) (v := .ref (ad 11)) (C := RX3) (T := TX3) (N := 16) hx hb hts hi3 hown hK hP 0 rfl rfl 14 (by decide) hk18 (fun _ h9 => h9) rfl dX3_copyOf_162 ?_
  refine lv_iconst (v := 0) hx hb dX3_copyOf_165 (by decide) ?_
  refine lv_aload_n hx hb dX3_copyOf_166 rfl (lv_at hl 0 rfl) ?_
  refine va_get (D := (dC, dI)) (ci := 3) (v := .ref h8) (C := RX3) (T := TX3) (N := 16) hx hb hts hi3 hown hK hP 10 rfl rfl 14 (by decide) hk18 (fun _ h9 => h9) rfl dX3_copyOf_167 ?_
  refine lv_iconst (v := 0) hx hb dX3_copyOf_170 (by decide) ?_
  refine lv_bipush (v := 120) hx hb dX3_copyOf_171 (by decide) ?_
  refine va_copyi hx hb (by rw [hml]; exact hl.1.symm) hown hk8 hk9 hk10 hk11 hK hP hD hS 8 18 1 1 rfl rfl rfl rfl rfl (by decide) (by decide) (by decide) (by decide) (by decide) (fun _ _ => rfl) (Nat.le_of_ble_eq_true rfl) (Nat.le_of_ble_eq_true rfl) dX3_copyOf_173 (fun H locs hP hD hS => ?_)
  have hP : va_P (dC, dI) vwCl [(ad 3, .inr (3, xf3 ad)), (ad 4, .inl (cI, 6, .inl (fun _ => 0))), (ad 5, .inl (cI, 6, .inl (fun _ => 0))), (ad 6, .inl (cI, 8, .inl (fun _ => 0))), (ad 7, .inl (cI, 8, .inl (fun _ => 0))), (ad 8, .inl (cI, 8, .inl (fun _ => 0))), (ad 9, .inl (cI, 8, .inl (fun _ => 0))), (ad 10, .inl (cI, 13, .inl (fun _ => (-1)))), (ad 11, .inl (cI, 120, .inl (fun _ => 0))), (ad 12, .inl (cI, 120, .inl (fun _ => 0))), (h0, .inr (3, [.int 0, .int 0, .int 0, .int 0, .int 0, .int 0, .int 0, .ref h1, .ref h2, .ref h3, .ref h4, .ref h5, .ref h6, .ref h7, .ref h8, .ref h9])), (h1, .inl (cI, 6, .inl (va_cpy (fun _ => 0) (fun _ => 0) (Int32.toNatClampNeg 0) (Int32.toNatClampNeg 0) (Int32.toNatClampNeg 6)))), (h2, .inl (cI, 6, .inl (va_cpy (fun _ => 0) (fun _ => 0) (Int32.toNatClampNeg 0) (Int32.toNatClampNeg 0) (Int32.toNatClampNeg 6)))), (h3, .inl (cI, 8, .inl (va_cpy (fun _ => 0) (fun _ => 0) (Int32.toNatClampNeg 0) (Int32.toNatClampNeg 0) (Int32.toNatClampNeg 8)))), (h4, .inl (cI, 8, .inl (va_cpy (fun _ => 0) (fun _ => 0) (Int32.toNatClampNeg 0) (Int32.toNatClampNeg 0) (Int32.toNatClampNeg 8)))), (h5, .inl (cI, 8, .inl (va_cpy (fun _ => 0) (fun _ => 0) (Int32.toNatClampNeg 0) (Int32.toNatClampNeg 0) (Int32.toNatClampNeg 8)))), (h6, .inl (cI, 8, .inl (va_cpy (fun _ => 0) (fun _ => 0) (Int32.toNatClampNeg 0) (Int32.toNatClampNeg 0) (Int32.toNatClampNeg 8)))), (h7, .inl (cI, 13, .inl (va_cpy (fun _ => (-1)) (fun _ => (-1)) (Int32.toNatClampNeg 0) (Int32.toNatClampNeg 0) (Int32.toNatClampNeg 13)))), (h8, .inl (cI, 120, .inl (va_cpy (fun _ => 0) (fun _ => 0) (Int32.toNatClampNeg 0) (Int32.toNatClampNeg 0) (Int32.toNatClampNeg 120)))), (h9, .inl (cI, 120, .inl (fun _ => 0)))] H := hP
  have hD : va_D A [(ad 3, .inr (3, xf3 ad)), (ad 4, .inl (cI, 6, .inl (fun _ => 0))), (ad 5, .inl (cI, 6, .inl (fun _ => 0))), (ad 6, .inl (cI, 8, .inl (fun _ => 0))), (ad 7, .inl (cI, 8, .inl (fun _ => 0))), (ad 8, .inl (cI, 8, .inl (fun _ => 0))), (ad 9, .inl (cI, 8, .inl (fun _ => 0))), (ad 10, .inl (cI, 13, .inl (fun _ => (-1)))), (ad 11, .inl (cI, 120, .inl (fun _ => 0))), (ad 12, .inl (cI, 120, .inl (fun _ => 0))), (h0, .inr (3, [.int 0, .int 0, .int 0, .int 0, .int 0, .int 0, .int 0, .ref h1, .ref h2, .ref h3, .ref h4, .ref h5, .ref h6, .ref h7, .ref h8, .ref h9])), (h1, .inl (cI, 6, .inl (va_cpy (fun _ => 0) (fun _ => 0) (Int32.toNatClampNeg 0) (Int32.toNatClampNeg 0) (Int32.toNatClampNeg 6)))), (h2, .inl (cI, 6, .inl (va_cpy (fun _ => 0) (fun _ => 0) (Int32.toNatClampNeg 0) (Int32.toNatClampNeg 0) (Int32.toNatClampNeg 6)))), (h3, .inl (cI, 8, .inl (va_cpy (fun _ => 0) (fun _ => 0) (Int32.toNatClampNeg 0) (Int32.toNatClampNeg 0) (Int32.toNatClampNeg 8)))), (h4, .inl (cI, 8, .inl (va_cpy (fun _ => 0) (fun _ => 0) (Int32.toNatClampNeg 0) (Int32.toNatClampNeg 0) (Int32.toNatClampNeg 8)))), (h5, .inl (cI, 8, .inl (va_cpy (fun _ => 0) (fun _ => 0) (Int32.toNatClampNeg 0) (Int32.toNatClampNeg 0) (Int32.toNatClampNeg 8)))), (h6, .inl (cI, 8, .inl (va_cpy (fun _ => 0) (fun _ => 0) (Int32.toNatClampNeg 0) (Int32.toNatClampNeg 0) (Int32.toNatClampNeg 8)))), (h7, .inl (cI, 13, .inl (va_cpy (fun _ => (-1)) (fun _ => (-1)) (Int32.toNatClampNeg 0) (Int32.toNatClampNeg 0) (Int32.toNatClampNeg 13)))), (h8, .inl (cI, 120, .inl (va_cpy (fun _ => 0) (fun _ => 0) (Int32.toNatClampNeg 0) (Int32.toNatClampNeg 0) (Int32.toNatClampNeg 120)))), (h9, .inl (cI, 120, .inl (fun _ => 0)))] := hD
  refine lv_aload_n hx hb dX3_copyOf_176 rfl (lv_at hl 1 rfl) ?_
  refine va_get (D := (dC, dI)) (ci := 3) (v := .ref (ad 12)) (C := RX3) (T := TX3) (N := 16) hx hb hts hi3 hown hK hP 0 rfl rfl 15 (by decide) hk19 (fun _ h9 => h9) rfl dX3_copyOf_177 ?_
  refine lv_iconst (v := 0) hx hb dX3_copyOf_180 (by decide) ?_
  refine lv_aload_n hx hb dX3_copyOf_181 rfl (lv_at hl 0 rfl) ?_
  refine va_get (D := (dC, dI)) (ci := 3) (v := .ref h9) (C := RX3) (T := TX3) (N := 16) hx hb hts hi3 hown hK hP 10 rfl rfl 15 (by decide) hk19 (fun _ h9 => h9) rfl dX3_copyOf_182 ?_
  refine lv_iconst (v := 0) hx hb dX3_copyOf_185 (by decide) ?_
  refine lv_bipush (v := 120) hx hb dX3_copyOf_186 (by decide) ?_
  refine va_copyi hx hb (by rw [hml]; exact hl.1.symm) hown hk8 hk9 hk10 hk11 hK hP hD hS 9 19 1 1 rfl rfl rfl rfl rfl (by decide) (by decide) (by decide) (by decide) (by decide) (fun _ _ => rfl) (Nat.le_of_ble_eq_true rfl) (Nat.le_of_ble_eq_true rfl) dX3_copyOf_188 (fun H locs hP hD hS => ?_)
  have hP : va_P (dC, dI) vwCl [(ad 3, .inr (3, xf3 ad)), (ad 4, .inl (cI, 6, .inl (fun _ => 0))), (ad 5, .inl (cI, 6, .inl (fun _ => 0))), (ad 6, .inl (cI, 8, .inl (fun _ => 0))), (ad 7, .inl (cI, 8, .inl (fun _ => 0))), (ad 8, .inl (cI, 8, .inl (fun _ => 0))), (ad 9, .inl (cI, 8, .inl (fun _ => 0))), (ad 10, .inl (cI, 13, .inl (fun _ => (-1)))), (ad 11, .inl (cI, 120, .inl (fun _ => 0))), (ad 12, .inl (cI, 120, .inl (fun _ => 0))), (h0, .inr (3, [.int 0, .int 0, .int 0, .int 0, .int 0, .int 0, .int 0, .ref h1, .ref h2, .ref h3, .ref h4, .ref h5, .ref h6, .ref h7, .ref h8, .ref h9])), (h1, .inl (cI, 6, .inl (va_cpy (fun _ => 0) (fun _ => 0) (Int32.toNatClampNeg 0) (Int32.toNatClampNeg 0) (Int32.toNatClampNeg 6)))), (h2, .inl (cI, 6, .inl (va_cpy (fun _ => 0) (fun _ => 0) (Int32.toNatClampNeg 0) (Int32.toNatClampNeg 0) (Int32.toNatClampNeg 6)))), (h3, .inl (cI, 8, .inl (va_cpy (fun _ => 0) (fun _ => 0) (Int32.toNatClampNeg 0) (Int32.toNatClampNeg 0) (Int32.toNatClampNeg 8)))), (h4, .inl (cI, 8, .inl (va_cpy (fun _ => 0) (fun _ => 0) (Int32.toNatClampNeg 0) (Int32.toNatClampNeg 0) (Int32.toNatClampNeg 8)))), (h5, .inl (cI, 8, .inl (va_cpy (fun _ => 0) (fun _ => 0) (Int32.toNatClampNeg 0) (Int32.toNatClampNeg 0) (Int32.toNatClampNeg 8)))), (h6, .inl (cI, 8, .inl (va_cpy (fun _ => 0) (fun _ => 0) (Int32.toNatClampNeg 0) (Int32.toNatClampNeg 0) (Int32.toNatClampNeg 8)))), (h7, .inl (cI, 13, .inl (va_cpy (fun _ => (-1)) (fun _ => (-1)) (Int32.toNatClampNeg 0) (Int32.toNatClampNeg 0) (Int32.toNatClampNeg 13)))), (h8, .inl (cI, 120, .inl (va_cpy (fun _ => 0) (fun _ => 0) (Int32.toNatClampNeg 0) (Int32.toNatClampNeg 0) (Int32.toNatClampNeg 120)))), (h9, .inl (cI, 120, .inl (va_cpy (fun _ => 0) (fun _ => 0) (Int32.toNatClampNeg 0) (Int32.toNatClampNeg 0) (Int32.toNatClampNeg 120))))] H := hP
  have hD : va_D A [(ad 3, .inr (3, xf3 ad)), (ad 4, .inl (cI, 6, .inl (fun _ => 0))), (ad 5, .inl (cI, 6, .inl (fun _ => 0))), (ad 6, .inl (cI, 8, .inl (fun _ => 0))), (ad 7, .inl (cI, 8, .inl (fun _ => 0))), (ad 8, .inl (cI, 8, .inl (fun _ => 0))), (ad 9, .inl (cI, 8, .inl (fun _ => 0))), (ad 10, .inl (cI, 13, .inl (fun _ => (-1)))), (ad 11, .inl (cI, 120, .inl (fun _ => 0))), (ad 12, .inl (cI, 120, .inl (fun _ => 0))), (h0, .inr (3, [.int 0, .int 0, .int 0, .int 0, .int 0, .int 0, .int 0, .ref h1, .ref h2, .ref h3, .ref h4, .ref h5, .ref h6, .ref h7, .ref h8, .ref h9])), (h1, .inl (cI, 6, .inl (va_cpy (fun _ => 0) (fun _ => 0) (Int32.toNatClampNeg 0) (Int32.toNatClampNeg 0) (Int32.toNatClampNeg 6)))), (h2, .inl (cI, 6, .inl (va_cpy (fun _ => 0) (fun _ => 0) (Int32.toNatClampNeg 0) (Int32.toNatClampNeg 0) (Int32.toNatClampNeg 6)))), (h3, .inl (cI, 8, .inl (va_cpy (fun _ => 0) (fun _ => 0) (Int32.toNatClampNeg 0) (Int32.toNatClampNeg 0) (Int32.toNatClampNeg 8)))), (h4, .inl (cI, 8, .inl (va_cpy (fun _ => 0) (fun _ => 0) (Int32.toNatClampNeg 0) (Int32.toNatClampNeg 0) (Int32.toNatClampNeg 8)))), (h5, .inl (cI, 8, .inl (va_cpy (fun _ => 0) (fun _ => 0) (Int32.toNatClampNeg 0) (Int32.toNatClampNeg 0) (Int32.toNatClampNeg 8)))), (h6, .inl (cI, 8, .inl (va_cpy (fun _ => 0) (fun _ => 0) (Int32.toNatClampNeg 0) (Int32.toNatClampNeg 0) (Int32.toNatClampNeg 8)))), (h7, .inl (cI, 13, .inl (va_cpy (fun _ => (-1)) (fun _ => (-1)) (Int32.toNatClampNeg 0) (Int32.toNatClampNeg 0) (Int32.toNatClampNeg 13)))), (h8, .inl (cI, 120, .inl (va_cpy (fun _ => 0) (fun _ => 0) (Int32.toNatClampNeg 0) (Int32.toNatClampNeg 0) (Int32.toNatClampNeg 120)))), (h9, .inl (cI, 120, .inl (va_cpy (fun _ => 0) (fun _ => 0) (Int32.toNatClampNeg 0) (Int32.toNatClampNeg 0) (Int32.toNatClampNeg 120))))] := hD
  exact z_vret () hx hb hr hlocks hK hP hD hS hAe hQ rfl trivial dX3_copyOf_191
