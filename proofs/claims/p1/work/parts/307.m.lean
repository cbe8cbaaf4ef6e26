set_option maxHeartbeats 4000000 in
set_option maxRecDepth 100000 in
theorem c_X9_homes_204 (l : Launch) (dC : Nat → ClassId) (dI : Nat → Nat → Nat) (cB cI cJ cZ cP cQ : ClassId) (am : Nat → Nat) (sz : Nat) (p1 : Int32) : Met l yX9_homes wsX9_homes ({ frames := 2, cells := 0, slots := 0, locals := 45 } : Room) (zPc [.ref (am 0), .int p1] (dC, dI) (zT cB cI cJ cZ cP cQ) [(am 0, .inr (9, mf0 am)), (am 25, .inl (cI, 5, .inl (fun _ => 0)))] sz [] []) (va_Ql (fun r _ => (fun r => (r = (-2000000000) ∧ p1.toInt < 1) ∨ (r = (-2000000000) ∧ 1 ≤ p1.toInt ∧ 4094 < p1.toInt) ∨ (r = (-2000000000) ∧ 1 ≤ p1.toInt ∧ p1.toInt ≤ 4094)) r) (zB (dC, dI) (zT cB cI cJ cZ cP cQ) (fun _ : Unit => []) [(am 0, .inr (9, mf0 am)), (am 25, .inl (cI, 5, .inl (fun _ => 0)))] sz) (va_A [(am 0, .inr (9, mf0 am)), (am 25, .inl (cI, 5, .inl (fun _ => 0)))] sz)) 0 0 (va_A [(am 0, .inr (9, mf0 am)), (am 25, .inl (cI, 5, .inl (fun _ => 0)))] sz) := by
  refine z_enter (cc := cX9_homes) (maxL := 7) (ret := (some .long)) (by decide) rfl (Nat.le_of_ble_eq_true rfl) ?_
  intro p e s m below meth c A ls Q H locs hx hb hr hml hown hts hlocks hin hK hP hD hA hX hS hAe hQ hl
  have hown : s.vm.findClass RX9 = some m.cls := hown
  have hi9 : ∀ w ∈ wsX90, w ∈ wsX9_homes := fun w h => List.mem_cons_of_mem _ (List.mem_append_right _ h)
  have hk0 := hts (.fieldLink RX9 125 "MonthPushModel" "thrown" "I") (by decide +kernel)
  have hk1 := hts (.constantLong RX9 408 (-2000000000)) (by decide +kernel)
  have hk2 := hts (.fieldLink RX9 89 "MonthPushModel" "sheets" "[I") (by decide +kernel)
  have hl : lv_has ls 7 [(0, .ref (am 0)), (1, .int p1)] := hl
  refine lv_aload_n hx hb dX9_homes_0 rfl (lv_at hl 0 rfl) ?_
  refine lv_iconst (v := 0) hx hb dX9_homes_1 (by decide) ?_
  refine z_put0 (D := (dC, dI)) (ci := 9) (v := .int 0) (ty := .int) (C := RX9) (T := TX9) (N := 60) hx hb hts hi9 tyX9 tyX9_ok nmX9 hown hK hP hD hS 0 rfl rfl 0 (by decide) hk0 (fun _ h9 => h9) rfl (by decide +kernel) rfl rfl rfl dX9_homes_2 (fun H locs hP hS => ?_)
  refine lv_iload_n hx hb dX9_homes_5 rfl (lv_at hl 1 rfl) ?_
  refine z_fini (w' := fun (u1 : Unit) => [(am 0, .inr (9, mf0 am)), (am 25, .inl (cI, 5, .inl (fun _ => 0)))]) (va_runS (As := [.int p1]) (rest := []) ⟨hx, hb, hml, hown, hts⟩ (c_X9_isPush_193 l dC dI cB cI cJ cZ cP cQ H.size p1) (va_cwS 1 hts gX9_homes_X9_isPush rfl rfl rfl (by decide +kernel) ⟨Nat.le_of_ble_eq_true rfl, Nat.le_of_ble_eq_true rfl⟩) (z_pS hK hP hD zX_nil [] (by decide) rfl) rfl rfl hl.1 rfl (lv_room (Nat.le_of_ble_eq_true rfl)) dX9_homes_6 ⟨Nat.le_of_ble_eq_true rfl, Nat.le_of_ble_eq_true rfl⟩) hP hD hS hA [] [0, 1] [0, 1] rfl rfl (by decide) (by decide) (fun _ => rfl) (by decide) (fun r2 u1 H locs hp3 hP hD hS => ?_)
  have hP : va_P (dC, dI) vwCl [(am 0, .inr (9, mf0 am)), (am 25, .inl (cI, 5, .inl (fun _ => 0)))] H := hP
  have hD : va_D A [(am 0, .inr (9, mf0 am)), (am 25, .inl (cI, 5, .inl (fun _ => 0)))] := hD
  refine W.widen (k := 0) (n := 0) (by decide) (by decide) ?_
  rcases hp3 with ⟨rfl, f4⟩ | ⟨rfl, f5, f6⟩ | ⟨rfl, f7, f8⟩
  · refine lv_if_ne (tgt := 16) hx hb dX9_homes_9 (by decide) (fun c => absurd (by decide) c) (fun _ => ?_)
    refine lv_ldc2 hx hb hown hk1 dX9_homes_12 ?_
    have hP9 := hP.sub (ws' := []) [] rfl
    have hD9 := hD.sub (ws' := []) [] (by decide) rfl
    exact z_lret () hx hb hr hlocks hK hP9 hD9 hS hAe hQ rfl (Or.inl (⟨rfl, f4⟩)) dX9_homes_15
  · refine lv_if_ne (tgt := 16) hx hb dX9_homes_9 (by decide) (fun c => absurd (by decide) c) (fun _ => ?_)
    refine lv_ldc2 hx hb hown hk1 dX9_homes_12 ?_
    have hP9 := hP.sub (ws' := []) [] rfl
    have hD9 := hD.sub (ws' := []) [] (by decide) rfl
    exact z_lret () hx hb hr hlocks hK hP9 hD9 hS hAe hQ rfl (Or.inr (Or.inl ⟨rfl, f5, f6⟩)) dX9_homes_15
  · refine lv_if_ne (tgt := 16) hx hb dX9_homes_9 (by decide) (fun _ => ?_) (fun c => absurd c (by decide))
    refine lv_aload_n hx hb dX9_homes_16 rfl (lv_at hl 0 rfl) ?_
    refine lv_iload_n hx hb dX9_homes_17 rfl (lv_at hl 1 rfl) ?_
    refine z_finv (w' := fun (u9 : Unit) => [(am 0, .inr (9, mf0 am)), (am 25, .inl (cI, 5, .inl (fun _ => 0)))]) (va_runV (As := [.int p1]) (rest := []) ⟨hx, hb, hml, hown, hts⟩ (c_X9_pushes_195 l dC dI cB cI cJ cZ cP cQ am H.size p1) (cwV 1 hts gX9_homes_X9_pushes rfl rfl rfl (by decide +kernel) ⟨Nat.le_of_ble_eq_true rfl, Nat.le_of_ble_eq_true rfl⟩) (z_pV (ci := 9) hK hP hD zX_nil [0, 1] (by decide) rfl rfl 0 rfl) rfl rfl hl.1 rfl (lv_room (Nat.le_of_ble_eq_true rfl)) dX9_homes_18 ⟨Nat.le_of_ble_eq_true rfl, Nat.le_of_ble_eq_true rfl⟩) hP hD hS hA [0, 1] [] [0, 1] rfl rfl (by decide) (by decide) (fun _ => rfl) (by decide) (fun u9 H locs hp11 hP hD hS => ?_)
    have hP : va_P (dC, dI) vwCl [(am 0, .inr (9, mf0 am)), (am 25, .inl (cI, 5, .inl (fun _ => 0)))] H := hP
    have hD : va_D A [(am 0, .inr (9, mf0 am)), (am 25, .inl (cI, 5, .inl (fun _ => 0)))] := hD
    refine W.widen (k := 0) (n := 0) (by decide) (by decide) ?_
    refine lv_aload_n hx hb dX9_homes_21 rfl (lv_at hl 0 rfl) ?_
    refine z_finv (w' := fun (u12 : Unit) => [(am 0, .inr (9, mf0 am)), (am 25, .inl (cI, 5, .inl (fun _ => 0)))]) (va_runV (As := []) (rest := []) ⟨hx, hb, hml, hown, hts⟩ (c_X9_gathers_188 l dC dI cB cI cJ cZ cP cQ am H.size) (cwV 0 hts gX9_homes_X9_gathers rfl rfl rfl (by decide +kernel) ⟨Nat.le_of_ble_eq_true rfl, Nat.le_of_ble_eq_true rfl⟩) (z_pV (ci := 9) hK hP hD zX_nil [0] (by decide) rfl rfl 0 rfl) rfl rfl hl.1 rfl (lv_room (Nat.le_of_ble_eq_true rfl)) dX9_homes_22 ⟨Nat.le_of_ble_eq_true rfl, Nat.le_of_ble_eq_true rfl⟩) hP hD hS hA [0] [1] [1, 0] rfl rfl (by decide) (by decide) (fun _ => rfl) (by decide) (fun u12 H locs hp14 hP hD hS => ?_)
    have hP : va_P (dC, dI) vwCl [(am 0, .inr (9, mf0 am)), (am 25, .inl (cI, 5, .inl (fun _ => 0)))] H := hP
    have hD : va_D A [(am 0, .inr (9, mf0 am)), (am 25, .inl (cI, 5, .inl (fun _ => 0)))] := hD
    refine W.widen (k := 0) (n := 0) (by decide) (by decide) ?_
    refine lv_lconst (v := 0) hx hb dX9_homes_25 (by decide) ?_
    refine lv_lstore_n (lv' := [(2, .long 0), (0, .ref (am 0)), (1, .int p1)]) hx hb dX9_homes_26 rfl hl (by decide) rfl (fun ls hl => ?_)
    refine lv_lconst (v := 0) hx hb dX9_homes_27 (by decide) ?_
    refine lv_lstore (lv' := [(4, .long 0), (2, .long 0), (0, .ref (am 0)), (1, .int p1)]) hx hb dX9_homes_28 hl (by decide) rfl (fun ls hl => ?_)
    refine lv_iconst (v := 0) hx hb dX9_homes_30 (by decide) ?_
    refine lv_istore (lv' := [(6, .int 0), (4, .long 0), (2, .long 0), (0, .ref (am 0)), (1, .int p1)]) hx hb dX9_homes_31 hl (by decide) rfl (fun ls hl => ?_)
    refine lv_iload hx hb dX9_homes_33 (lv_at hl 0 rfl) ?_
    refine lv_aload_n hx hb dX9_homes_35 rfl (lv_at hl 3 rfl) ?_
    refine va_get (D := (dC, dI)) (ci := 9) (v := .ref (am 25)) (C := RX9) (T := TX9) (N := 60) hx hb hts hi9 hown hK hP 0 rfl rfl 35 (by decide) hk2 (fun _ h9 => h9) rfl dX9_homes_36 ?_
    refine lv_iconst (v := 0) hx hb dX9_homes_39 (by decide) ?_
    refine va_iald hx hb hK hP 1 1 rfl rfl (z_in (a := 0) (by decide) (by decide) (by decide)) dX9_homes_40 ?_
    refine z_topi (y := 0) rfl ?_
    refine lv_icmp_ge (tgt := 87) hx hb dX9_homes_41 (by decide) (fun _ => ?_) (fun c => absurd (by decide) c)
    refine lv_aload_n hx hb dX9_homes_87 rfl (lv_at hl 3 rfl) ?_
    refine z_fini (w' := fun (u15 : Unit) => [(am 0, .inr (9, mf0 am)), (am 25, .inl (cI, 5, .inl (fun _ => 0)))]) (va_runV (As := []) (rest := []) ⟨hx, hb, hml, hown, hts⟩ (c_X9_areBoth_197 l dC dI cB cI cJ cZ cP cQ am H.size) (cwV 0 hts gX9_homes_X9_areBoth rfl rfl rfl (by decide +kernel) ⟨Nat.le_of_ble_eq_true rfl, Nat.le_of_ble_eq_true rfl⟩) (z_pV (ci := 9) hK hP hD zX_nil [0] (by decide) rfl rfl 0 rfl) rfl rfl hl.1 rfl (lv_room (Nat.le_of_ble_eq_true rfl)) dX9_homes_88 ⟨Nat.le_of_ble_eq_true rfl, Nat.le_of_ble_eq_true rfl⟩) hP hD hS hA [0] [1] [1, 0] rfl rfl (by decide) (by decide) (fun _ => rfl) (by decide) (fun r16 u15 H locs hp17 hP hD hS => ?_)
    have hP : va_P (dC, dI) vwCl [(am 0, .inr (9, mf0 am)), (am 25, .inl (cI, 5, .inl (fun _ => 0)))] H := hP
    have hD : va_D A [(am 0, .inr (9, mf0 am)), (am 25, .inl (cI, 5, .inl (fun _ => 0)))] := hD
    refine W.widen (k := 0) (n := 0) (by decide) (by decide) ?_
    obtain rfl : r16 = 0 := hp17
    refine lv_if_eq (tgt := 124) hx hb dX9_homes_91 (by decide) (fun _ => ?_) (fun c => absurd (by decide) c)
    refine lv_ldc2 hx hb hown hk1 dX9_homes_124 ?_
    have hP9 := hP.sub (ws' := []) [] rfl
    have hD9 := hD.sub (ws' := []) [] (by decide) rfl
    exact z_lret () hx hb hr hlocks hK hP9 hD9 hS hAe hQ rfl (Or.inr (Or.inr ⟨rfl, f7, f8⟩)) dX9_homes_127
set_option maxHeartbeats 4000000 in
set_option maxRecDepth 100000 in
theorem c_X9_in_206 (l : Launch) (dC : Nat → ClassId) (dI : Nat → Nat → Nat) (cB cI cJ cZ cP cQ : ClassId) (sz : Nat) (p0 : Int32) : Met l yX9_in wsX9_in ({ frames := 0, cells := 0, slots := 0, locals := 0 } : Room) (zPc [.long p0.toInt64, .long (-9999999), .long 9999999] (dC, dI) (zT cB cI cJ cZ cP cQ) [] sz [] []) (va_Qi (fun r _ => (fun r => (r = 0 ∧ p0.toInt < (-9999999)) ∨ (r = 0 ∧ (-9999999) ≤ p0.toInt ∧ 9999999 < p0.toInt) ∨ (r = 1 ∧ (-9999999) ≤ p0.toInt ∧ p0.toInt ≤ 9999999)) r) (zB (dC, dI) (zT cB cI cJ cZ cP cQ) (fun _ : Unit => []) [] sz) (va_A [] sz)) 0 0 (va_A [] sz) := by
  refine z_enter (cc := cX9_in) (maxL := 6) (ret := (some .boolean)) (by decide) rfl (Nat.le_of_ble_eq_true rfl) ?_
  intro p e s m below meth c A ls Q H locs hx hb hr hml hown hts hlocks hin hK hP hD hA hX hS hAe hQ hl
  have hown : s.vm.findClass RX9 = some m.cls := hown
  have hl : lv_has ls 6 [(0, .long p0.toInt64), (2, .long (-9999999)), (4, .long 9999999)] := hl
  refine lv_lload_n hx hb dX9_in_0 rfl (lv_at hl 0 rfl) ?_
  refine lv_lload_n hx hb dX9_in_1 rfl (lv_at hl 1 rfl) ?_
  refine W.lcmp hx hb dX9_in_2 ?_
  refine lv_if_lt (tgt := 17) hx hb dX9_in_3 (by decide) (fun c_1 => ?_) (fun c_1 => ?_)
  · have f2 : p0.toInt < (-9999999) := z_llt (z_i2l p0) (by decide) c_1
    refine lv_iconst (v := 0) hx hb dX9_in_17 (by decide) ?_
    exact z_zret () hx hb hr hlocks hK hP hD hS hAe hQ rfl (Or.inl (⟨rfl, f2⟩)) (by decide) dX9_in_18
  · have f2 : (-9999999) ≤ p0.toInt := z_lnlt (z_i2l p0) (by decide) c_1
    refine lv_lload_n hx hb dX9_in_6 rfl (lv_at hl 0 rfl) ?_
    refine lv_lload hx hb dX9_in_7 (lv_at hl 2 rfl) ?_
    refine W.lcmp hx hb dX9_in_9 ?_
    refine lv_if_gt (tgt := 17) hx hb dX9_in_10 (by decide) (fun c_3 => ?_) (fun c_3 => ?_)
    · have f4 : 9999999 < p0.toInt := z_lgt (z_i2l p0) (by decide) c_3
      refine lv_iconst (v := 0) hx hb dX9_in_17 (by decide) ?_
      exact z_zret () hx hb hr hlocks hK hP hD hS hAe hQ rfl (Or.inr (Or.inl ⟨rfl, f2, f4⟩)) (by decide) dX9_in_18
    · have f4 : p0.toInt ≤ 9999999 := z_lngt (z_i2l p0) (by decide) c_3
      refine lv_iconst (v := 1) hx hb dX9_in_13 (by decide) ?_
      refine lv_goto (tgt := 18) hx hb dX9_in_14 (by decide) ?_
      exact z_zret () hx hb hr hlocks hK hP hD hS hAe hQ rfl (Or.inr (Or.inr ⟨rfl, f2, f4⟩)) (by decide) dX9_in_18
set_option maxHeartbeats 4000000 in
set_option maxRecDepth 100000 in
theorem c_X9_leaked_206 (l : Launch) (dC : Nat → ClassId) (dI : Nat → Nat → Nat) (cB cI cJ cZ cP cQ : ClassId) (am : Nat → Nat) (sz : Nat) (p1 : Int32) (p2 : Int32) : Met l yX9_leaked wsX9_leaked ({ frames := 3, cells := 0, slots := 0, locals := 66 } : Room) (zPc [.ref (am 0), .int p1, .int p2] (dC, dI) (zT cB cI cJ cZ cP cQ) [(am 0, .inr (9, mf0 am)), (am 25, .inl (cI, 5, .inl (fun _ => 0)))] sz [] []) (va_Ql (fun r _ => (fun r => (r = (-2000000000) ∧ p2.toInt < (-9999999)) ∨ (r = (-2000000000) ∧ (-9999999) ≤ p2.toInt ∧ 9999999 < p2.toInt) ∨ (r = (-2000000000) ∧ (-9999999) ≤ p2.toInt ∧ p2.toInt ≤ 9999999 ∧ p1.toInt < 1) ∨ (r = (-2000000000) ∧ (-9999999) ≤ p2.toInt ∧ p2.toInt ≤ 9999999 ∧ 1 ≤ p1.toInt ∧ 4094 < p1.toInt) ∨ (r = (-2000000000) ∧ (-9999999) ≤ p2.toInt ∧ p2.toInt ≤ 9999999 ∧ 1 ≤ p1.toInt ∧ p1.toInt ≤ 4094)) r) (zB (dC, dI) (zT cB cI cJ cZ cP cQ) (fun _ : Unit => []) [(am 0, .inr (9, mf0 am)), (am 25, .inl (cI, 5, .inl (fun _ => 0)))] sz) (va_A [(am 0, .inr (9, mf0 am)), (am 25, .inl (cI, 5, .inl (fun _ => 0)))] sz)) 0 0 (va_A [(am 0, .inr (9, mf0 am)), (am 25, .inl (cI, 5, .inl (fun _ => 0)))] sz) := by
  refine z_enter (cc := cX9_leaked) (maxL := 3) (ret := (some .long)) (by decide) rfl (Nat.le_of_ble_eq_true rfl) ?_
  intro p e s m below meth c A ls Q H locs hx hb hr hml hown hts hlocks hin hK hP hD hA hX hS hAe hQ hl
  have hown : s.vm.findClass RX9 = some m.cls := hown
  have hi9 : ∀ w ∈ wsX90, w ∈ wsX9_leaked := fun w h => List.mem_cons_of_mem _ (List.mem_append_right _ h)
  have hk0 := hts (.fieldLink RX9 125 "MonthPushModel" "thrown" "I") (by decide +kernel)
  have hk1 := hts (.constantLong RX9 447 (-9999999)) (by decide +kernel)
  have hk2 := hts (.constantLong RX9 449 9999999) (by decide +kernel)
  have hk3 := hts (.constantLong RX9 408 (-2000000000)) (by decide +kernel)
  have hk4 := hts (.fieldLink RX9 402 "MonthPushModel" "isTold" "Z") (by decide +kernel)
  have hl : lv_has ls 3 [(0, .ref (am 0)), (1, .int p1), (2, .int p2)] := hl
  refine lv_aload_n hx hb dX9_leaked_0 rfl (lv_at hl 0 rfl) ?_
  refine lv_iconst (v := 0) hx hb dX9_leaked_1 (by decide) ?_
  refine z_put0 (D := (dC, dI)) (ci := 9) (v := .int 0) (ty := .int) (C := RX9) (T := TX9) (N := 60) hx hb hts hi9 tyX9 tyX9_ok nmX9 hown hK hP hD hS 0 rfl rfl 0 (by decide) hk0 (fun _ h9 => h9) rfl (by decide +kernel) rfl rfl rfl dX9_leaked_2 (fun H locs hP hS => ?_)
  refine lv_iload_n hx hb dX9_leaked_5 rfl (lv_at hl 2 rfl) ?_
  refine lv_i2l hx hb dX9_leaked_6 rfl ?_
  refine lv_ldc2 hx hb hown hk1 dX9_leaked_7 ?_
  refine lv_ldc2 hx hb hown hk2 dX9_leaked_10 ?_
  refine z_fini (w' := fun (u1 : Unit) => [(am 0, .inr (9, mf0 am)), (am 25, .inl (cI, 5, .inl (fun _ => 0)))]) (va_runS (As := [.long p2.toInt64, .long (-9999999), .long 9999999]) (rest := []) ⟨hx, hb, hml, hown, hts⟩ (c_X9_in_206 l dC dI cB cI cJ cZ cP cQ H.size p2) (va_cwS 3 hts gX9_leaked_X9_in rfl rfl rfl (by decide +kernel) ⟨Nat.le_of_ble_eq_true rfl, Nat.le_of_ble_eq_true rfl⟩) (z_pS hK hP hD zX_nil [] (by decide) rfl) rfl rfl hl.1 rfl (lv_room (Nat.le_of_ble_eq_true rfl)) dX9_leaked_13 ⟨Nat.le_of_ble_eq_true rfl, Nat.le_of_ble_eq_true rfl⟩) hP hD hS hA [] [0, 1] [0, 1] rfl rfl (by decide) (by decide) (fun _ => rfl) (by decide) (fun r2 u1 H locs hp3 hP hD hS => ?_)
  have hP : va_P (dC, dI) vwCl [(am 0, .inr (9, mf0 am)), (am 25, .inl (cI, 5, .inl (fun _ => 0)))] H := hP
  have hD : va_D A [(am 0, .inr (9, mf0 am)), (am 25, .inl (cI, 5, .inl (fun _ => 0)))] := hD
  refine W.widen (k := 0) (n := 0) (by decide) (by decide) ?_
  rcases hp3 with ⟨rfl, f4⟩ | ⟨rfl, f5, f6⟩ | ⟨rfl, f7, f8⟩
  · refine lv_if_ne (tgt := 23) hx hb dX9_leaked_16 (by decide) (fun c => absurd (by decide) c) (fun _ => ?_)
    refine lv_ldc2 hx hb hown hk3 dX9_leaked_19 ?_
    have hP9 := hP.sub (ws' := []) [] rfl
    have hD9 := hD.sub (ws' := []) [] (by decide) rfl
    exact z_lret () hx hb hr hlocks hK hP9 hD9 hS hAe hQ rfl (Or.inl (⟨rfl, f4⟩)) dX9_leaked_22
  · refine lv_if_ne (tgt := 23) hx hb dX9_leaked_16 (by decide) (fun c => absurd (by decide) c) (fun _ => ?_)
    refine lv_ldc2 hx hb hown hk3 dX9_leaked_19 ?_
    have hP9 := hP.sub (ws' := []) [] rfl
    have hD9 := hD.sub (ws' := []) [] (by decide) rfl
    exact z_lret () hx hb hr hlocks hK hP9 hD9 hS hAe hQ rfl (Or.inr (Or.inl ⟨rfl, f5, f6⟩)) dX9_leaked_22
  · refine lv_if_ne (tgt := 23) hx hb dX9_leaked_16 (by decide) (fun _ => ?_) (fun c => absurd c (by decide))
    refine lv_aload_n hx hb dX9_leaked_23 rfl (lv_at hl 0 rfl) ?_
    refine lv_iload_n hx hb dX9_leaked_24 rfl (lv_at hl 1 rfl) ?_
    refine z_finl (w' := fun (u9 : Unit) => [(am 0, .inr (9, mf0 am)), (am 25, .inl (cI, 5, .inl (fun _ => 0)))]) (va_runV (As := [.int p1]) (rest := []) ⟨hx, hb, hml, hown, hts⟩ (c_X9_byOf_197 l dC dI cB cI cJ cZ cP cQ am H.size p1) (cwV 1 hts gX9_leaked_X9_byOf rfl rfl rfl (by decide +kernel) ⟨Nat.le_of_ble_eq_true rfl, Nat.le_of_ble_eq_true rfl⟩) (z_pV (ci := 9) hK hP hD zX_nil [0, 1] (by decide) rfl rfl 0 rfl) rfl rfl hl.1 rfl (lv_room (Nat.le_of_ble_eq_true rfl)) dX9_leaked_25 ⟨Nat.le_of_ble_eq_true rfl, Nat.le_of_ble_eq_true rfl⟩) hP hD hS hA [0, 1] [] [0, 1] rfl rfl (by decide) (by decide) (fun _ => rfl) (by decide) (fun r10 u9 H locs hp11 hP hD hS => ?_)
    have hP : va_P (dC, dI) vwCl [(am 0, .inr (9, mf0 am)), (am 25, .inl (cI, 5, .inl (fun _ => 0)))] H := hP
    have hD : va_D A [(am 0, .inr (9, mf0 am)), (am 25, .inl (cI, 5, .inl (fun _ => 0)))] := hD
    refine W.widen (k := 0) (n := 0) (by decide) (by decide) ?_
    rcases hp11 with ⟨rfl, f12⟩ | ⟨rfl, f13, f14⟩ | ⟨rfl, f15, f16⟩
    · refine lv_pop2_2 hx hb dX9_leaked_28 rfl ?_
      refine lv_aload_n hx hb dX9_leaked_29 rfl (lv_at hl 0 rfl) ?_
      refine va_get (D := (dC, dI)) (ci := 9) (v := .int 0) (C := RX9) (T := TX9) (N := 60) hx hb hts hi9 hown hK hP 0 rfl rfl 53 (by decide) hk4 (fun _ h9 => h9) rfl dX9_leaked_30 ?_
      refine lv_if_ne (tgt := 40) hx hb dX9_leaked_33 (by decide) (fun c => absurd (by decide) c) (fun _ => ?_)
      refine lv_ldc2 hx hb hown hk3 dX9_leaked_36 ?_
      have hP9 := hP.sub (ws' := []) [] rfl
      have hD9 := hD.sub (ws' := []) [] (by decide) rfl
      exact z_lret () hx hb hr hlocks hK hP9 hD9 hS hAe hQ rfl (Or.inr (Or.inr (Or.inl ⟨rfl, f7, f8, f12⟩))) dX9_leaked_39
    · refine lv_pop2_2 hx hb dX9_leaked_28 rfl ?_
      refine lv_aload_n hx hb dX9_leaked_29 rfl (lv_at hl 0 rfl) ?_
      refine va_get (D := (dC, dI)) (ci := 9) (v := .int 0) (C := RX9) (T := TX9) (N := 60) hx hb hts hi9 hown hK hP 0 rfl rfl 53 (by decide) hk4 (fun _ h9 => h9) rfl dX9_leaked_30 ?_
      refine lv_if_ne (tgt := 40) hx hb dX9_leaked_33 (by decide) (fun c => absurd (by decide) c) (fun _ => ?_)
      refine lv_ldc2 hx hb hown hk3 dX9_leaked_36 ?_
      have hP9 := hP.sub (ws' := []) [] rfl
      have hD9 := hD.sub (ws' := []) [] (by decide) rfl
      exact z_lret () hx hb hr hlocks hK hP9 hD9 hS hAe hQ rfl (Or.inr (Or.inr (Or.inr (Or.inl ⟨rfl, f7, f8, f13, f14⟩)))) dX9_leaked_39
    · refine lv_pop2_2 hx hb dX9_leaked_28 rfl ?_
      refine lv_aload_n hx hb dX9_leaked_29 rfl (lv_at hl 0 rfl) ?_
      refine va_get (D := (dC, dI)) (ci := 9) (v := .int 0) (C := RX9) (T := TX9) (N := 60) hx hb hts hi9 hown hK hP 0 rfl rfl 53 (by decide) hk4 (fun _ h9 => h9) rfl dX9_leaked_30 ?_
      refine lv_if_ne (tgt := 40) hx hb dX9_leaked_33 (by decide) (fun c => absurd (by decide) c) (fun _ => ?_)
      refine lv_ldc2 hx hb hown hk3 dX9_leaked_36 ?_
      have hP9 := hP.sub (ws' := []) [] rfl
      have hD9 := hD.sub (ws' := []) [] (by decide) rfl
      exact z_lret () hx hb hr hlocks hK hP9 hD9 hS hAe hQ rfl (Or.inr (Or.inr (Or.inr (Or.inr ⟨rfl, f7, f8, f15, f16⟩)))) dX9_leaked_39
set_option maxHeartbeats 4000000 in
set_option maxRecDepth 100000 in
theorem c_X9_strongBy_208 (l : Launch) (dC : Nat → ClassId) (dI : Nat → Nat → Nat) (cB cI cJ cZ cP cQ : ClassId) (am : Nat → Nat) (sz : Nat) (p1 : Int32) : Met l yX9_strongBy wsX9_strongBy ({ frames := 2, cells := 0, slots := 0, locals := 45 } : Room) (zPc [.ref (am 0), .int p1, .int 0] (dC, dI) (zT cB cI cJ cZ cP cQ) [(am 0, .inr (9, mf0 am))] sz [] []) (va_Ql (fun r _ => (fun r => (r = (-2000000000) ∧ p1.toInt < 1) ∨ (r = (-2000000000) ∧ 1 ≤ p1.toInt ∧ 4094 < p1.toInt) ∨ (r = (-2000000000) ∧ 1 ≤ p1.toInt ∧ p1.toInt ≤ 4094)) r) (zB (dC, dI) (zT cB cI cJ cZ cP cQ) (fun _ : Unit => [(am 0, .inr (9, mf0 am))]) [(am 0, .inr (9, mf0 am))] sz) (va_A [(am 0, .inr (9, mf0 am))] sz)) 0 0 (va_A [(am 0, .inr (9, mf0 am))] sz) := by
  refine z_enter (cc := cX9_strongBy) (maxL := 7) (ret := (some .long)) (by decide) rfl (Nat.le_of_ble_eq_true rfl) ?_
  intro p e s m below meth c A ls Q H locs hx hb hr hml hown hts hlocks hin hK hP hD hA hX hS hAe hQ hl
  have hown : s.vm.findClass RX9 = some m.cls := hown
  have hk0 := hts (.constantLong RX9 408 (-2000000000)) (by decide +kernel)
  have hl : lv_has ls 7 [(0, .ref (am 0)), (1, .int p1), (2, .int 0)] := hl
  refine lv_iload_n hx hb dX9_strongBy_0 rfl (lv_at hl 1 rfl) ?_
  refine z_fini (w' := fun (u1 : Unit) => [(am 0, .inr (9, mf0 am))]) (va_runS (As := [.int p1]) (rest := []) ⟨hx, hb, hml, hown, hts⟩ (c_X9_isPush_193 l dC dI cB cI cJ cZ cP cQ H.size p1) (va_cwS 1 hts gX9_strongBy_X9_isPush rfl rfl rfl (by decide +kernel) ⟨Nat.le_of_ble_eq_true rfl, Nat.le_of_ble_eq_true rfl⟩) (z_pS hK hP hD zX_nil [] (by decide) rfl) rfl rfl hl.1 rfl (lv_room (Nat.le_of_ble_eq_true rfl)) dX9_strongBy_1 ⟨Nat.le_of_ble_eq_true rfl, Nat.le_of_ble_eq_true rfl⟩) hP hD hS hA [] [0] [0] rfl rfl (by decide) (by decide) (fun _ => rfl) (by decide) (fun r2 u1 H locs hp3 hP hD hS => ?_)
  have hP : va_P (dC, dI) vwCl [(am 0, .inr (9, mf0 am))] H := hP
  have hD : va_D A [(am 0, .inr (9, mf0 am))] := hD
  refine W.widen (k := 0) (n := 0) (by decide) (by decide) ?_
  rcases hp3 with ⟨rfl, f4⟩ | ⟨rfl, f5, f6⟩ | ⟨rfl, f7, f8⟩
  · refine lv_if_eq (tgt := 12) hx hb dX9_strongBy_4 (by decide) (fun _ => ?_) (fun c => absurd (by decide) c)
    refine lv_ldc2 hx hb hown hk0 dX9_strongBy_12 ?_
    exact z_lret () hx hb hr hlocks hK hP hD hS hAe hQ rfl (Or.inl (⟨rfl, f4⟩)) dX9_strongBy_15
  · refine lv_if_eq (tgt := 12) hx hb dX9_strongBy_4 (by decide) (fun _ => ?_) (fun c => absurd (by decide) c)
    refine lv_ldc2 hx hb hown hk0 dX9_strongBy_12 ?_
    exact z_lret () hx hb hr hlocks hK hP hD hS hAe hQ rfl (Or.inr (Or.inl ⟨rfl, f5, f6⟩)) dX9_strongBy_15
  · refine lv_if_eq (tgt := 12) hx hb dX9_strongBy_4 (by decide) (fun c => absurd c (by decide)) (fun _ => ?_)
    refine lv_iload_n hx hb dX9_strongBy_7 rfl (lv_at hl 2 rfl) ?_
    refine lv_iconst (v := 3) hx hb dX9_strongBy_8 (by decide) ?_
    refine lv_icmp_ge (tgt := 16) hx hb dX9_strongBy_9 (by decide) (fun c => absurd c (by decide)) (fun _ => ?_)
    refine lv_ldc2 hx hb hown hk0 dX9_strongBy_12 ?_
    exact z_lret () hx hb hr hlocks hK hP hD hS hAe hQ rfl (Or.inr (Or.inr ⟨rfl, f7, f8⟩)) dX9_strongBy_15
set_option maxHeartbeats 4000000 in
set_option maxRecDepth 100000 in
theorem c_X9_strong_208 (l : Launch) (dC : Nat → ClassId) (dI : Nat → Nat → Nat) (cB cI cJ cZ cP cQ : ClassId) (am : Nat → Nat) (sz : Nat) (p1 : Int32) : Met l yX9_strong wsX9_strong ({ frames := 3, cells := 0, slots := 0, locals := 71 } : Room) (zPc [.ref (am 0), .int p1] (dC, dI) (zT cB cI cJ cZ cP cQ) [(am 0, .inr (9, mf0 am)), (am 25, .inl (cI, 5, .inl (fun _ => 0)))] sz [] []) (va_Ql (fun r _ => (fun r => (r = (-2000000000) ∧ p1.toInt < 1) ∨ (r = (-2000000000) ∧ 1 ≤ p1.toInt ∧ 4094 < p1.toInt) ∨ (r = (-2000000000) ∧ 1 ≤ p1.toInt ∧ p1.toInt ≤ 4094)) r) (zB (dC, dI) (zT cB cI cJ cZ cP cQ) (fun _ : Unit => []) [(am 0, .inr (9, mf0 am)), (am 25, .inl (cI, 5, .inl (fun _ => 0)))] sz) (va_A [(am 0, .inr (9, mf0 am)), (am 25, .inl (cI, 5, .inl (fun _ => 0)))] sz)) 0 0 (va_A [(am 0, .inr (9, mf0 am)), (am 25, .inl (cI, 5, .inl (fun _ => 0)))] sz) := by
  refine z_enter (cc := cX9_strong) (maxL := 2) (ret := (some .long)) (by decide) rfl (Nat.le_of_ble_eq_true rfl) ?_
  intro p e s m below meth c A ls Q H locs hx hb hr hml hown hts hlocks hin hK hP hD hA hX hS hAe hQ hl
  have hown : s.vm.findClass RX9 = some m.cls := hown
  have hi9 : ∀ w ∈ wsX90, w ∈ wsX9_strong := fun w h => List.mem_cons_of_mem _ (List.mem_append_right _ h)
  have hk0 := hts (.fieldLink RX9 125 "MonthPushModel" "thrown" "I") (by decide +kernel)
  have hk1 := hts (.fieldLink RX9 89 "MonthPushModel" "sheets" "[I") (by decide +kernel)
  have hl : lv_has ls 2 [(0, .ref (am 0)), (1, .int p1)] := hl
  refine lv_aload_n hx hb dX9_strong_0 rfl (lv_at hl 0 rfl) ?_
  refine lv_iconst (v := 0) hx hb dX9_strong_1 (by decide) ?_
  refine z_put0 (D := (dC, dI)) (ci := 9) (v := .int 0) (ty := .int) (C := RX9) (T := TX9) (N := 60) hx hb hts hi9 tyX9 tyX9_ok nmX9 hown hK hP hD hS 0 rfl rfl 0 (by decide) hk0 (fun _ h9 => h9) rfl (by decide +kernel) rfl rfl rfl dX9_strong_2 (fun H locs hP hS => ?_)
  refine lv_aload_n hx hb dX9_strong_5 rfl (lv_at hl 0 rfl) ?_
  refine lv_iload_n hx hb dX9_strong_6 rfl (lv_at hl 1 rfl) ?_
  refine lv_aload_n hx hb dX9_strong_7 rfl (lv_at hl 0 rfl) ?_
  refine va_get (D := (dC, dI)) (ci := 9) (v := .ref (am 25)) (C := RX9) (T := TX9) (N := 60) hx hb hts hi9 hown hK hP 0 rfl rfl 35 (by decide) hk1 (fun _ h9 => h9) rfl dX9_strong_8 ?_
  refine lv_iconst (v := 0) hx hb dX9_strong_11 (by decide) ?_
  refine va_iald hx hb hK hP 1 1 rfl rfl (z_in (a := 0) (by decide) (by decide) (by decide)) dX9_strong_12 ?_
  refine z_topi (y := 0) rfl ?_
  refine z_finl (w' := fun (u1 : Unit) => [(am 0, .inr (9, mf0 am)), (am 25, .inl (cI, 5, .inl (fun _ => 0)))]) (va_runV (As := [.int p1, .int 0]) (rest := []) ⟨hx, hb, hml, hown, hts⟩ (c_X9_strongBy_208 l dC dI cB cI cJ cZ cP cQ am H.size p1) (cwV 2 hts gX9_strong_X9_strongBy rfl rfl rfl (by decide +kernel) ⟨Nat.le_of_ble_eq_true rfl, Nat.le_of_ble_eq_true rfl⟩) (z_pV (ci := 9) hK hP hD zX_nil [0] (by decide) rfl rfl 0 rfl) rfl rfl hl.1 rfl (lv_room (Nat.le_of_ble_eq_true rfl)) dX9_strong_13 ⟨Nat.le_of_ble_eq_true rfl, Nat.le_of_ble_eq_true rfl⟩) hP hD hS hA [0] [1] [1, 0] rfl rfl (by decide) (by decide) (fun _ => rfl) (by decide) (fun r2 u1 H locs hp3 hP hD hS => ?_)
  have hP : va_P (dC, dI) vwCl [(am 0, .inr (9, mf0 am)), (am 25, .inl (cI, 5, .inl (fun _ => 0)))] H := hP
  have hD : va_D A [(am 0, .inr (9, mf0 am)), (am 25, .inl (cI, 5, .inl (fun _ => 0)))] := hD
  refine W.widen (k := 0) (n := 0) (by decide) (by decide) ?_
  rcases hp3 with ⟨rfl, f4⟩ | ⟨rfl, f5, f6⟩ | ⟨rfl, f7, f8⟩
  · have hP9 := hP.sub (ws' := []) [] rfl
    have hD9 := hD.sub (ws' := []) [] (by decide) rfl
    exact z_lret () hx hb hr hlocks hK hP9 hD9 hS hAe hQ rfl (Or.inl (⟨rfl, f4⟩)) dX9_strong_16
  · have hP9 := hP.sub (ws' := []) [] rfl
    have hD9 := hD.sub (ws' := []) [] (by decide) rfl
    exact z_lret () hx hb hr hlocks hK hP9 hD9 hS hAe hQ rfl (Or.inr (Or.inl ⟨rfl, f5, f6⟩)) dX9_strong_16
  · have hP9 := hP.sub (ws' := []) [] rfl
    have hD9 := hD.sub (ws' := []) [] (by decide) rfl
    exact z_lret () hx hb hr hlocks hK hP9 hD9 hS hAe hQ rfl (Or.inr (Or.inr ⟨rfl, f7, f8⟩)) dX9_strong_16
set_option maxHeartbeats 4000000 in
set_option maxRecDepth 100000 in
theorem c_X9_strongest_209 (l : Launch) (dC : Nat → ClassId) (dI : Nat → Nat → Nat) (cB cI cJ cZ cP cQ : ClassId) (am : Nat → Nat) (sz : Nat) : Met l yX9_strongest wsX9_strongest ({ frames := 3, cells := 0, slots := 0, locals := 71 } : Room) (zPc [.ref (am 0)] (dC, dI) (zT cB cI cJ cZ cP cQ) [(am 0, .inr (9, mf0 am)), (am 25, .inl (cI, 5, .inl (fun _ => 0)))] sz [] []) (va_Qi (fun r _ => (fun r => r = (-1)) r) (zB (dC, dI) (zT cB cI cJ cZ cP cQ) (fun _ : Unit => []) [(am 0, .inr (9, mf0 am)), (am 25, .inl (cI, 5, .inl (fun _ => 0)))] sz) (va_A [(am 0, .inr (9, mf0 am)), (am 25, .inl (cI, 5, .inl (fun _ => 0)))] sz)) 0 0 (va_A [(am 0, .inr (9, mf0 am)), (am 25, .inl (cI, 5, .inl (fun _ => 0)))] sz) := by
  refine z_enter (cc := cX9_strongest) (maxL := 7) (ret := (some .int)) (by decide) rfl (Nat.le_of_ble_eq_true rfl) ?_
  intro p e s m below meth c A ls Q H locs hx hb hr hml hown hts hlocks hin hK hP hD hA hX hS hAe hQ hl
  have hown : s.vm.findClass RX9 = some m.cls := hown
  have hi9 : ∀ w ∈ wsX90, w ∈ wsX9_strongest := fun w h => List.mem_cons_of_mem _ (List.mem_append_right _ h)
  have hk0 := hts (.fieldLink RX9 125 "MonthPushModel" "thrown" "I") (by decide +kernel)
  have hk1 := hts (.fieldLink RX9 89 "MonthPushModel" "sheets" "[I") (by decide +kernel)
  have hk2 := hts (.constantLong RX9 408 (-2000000000)) (by decide +kernel)
  have hl : lv_has ls 7 [(0, .ref (am 0))] := hl
  refine lv_aload_n hx hb dX9_strongest_0 rfl (lv_at hl 0 rfl) ?_
  refine lv_iconst (v := 0) hx hb dX9_strongest_1 (by decide) ?_
  refine z_put0 (D := (dC, dI)) (ci := 9) (v := .int 0) (ty := .int) (C := RX9) (T := TX9) (N := 60) hx hb hts hi9 tyX9 tyX9_ok nmX9 hown hK hP hD hS 0 rfl rfl 0 (by decide) hk0 (fun _ h9 => h9) rfl (by decide +kernel) rfl rfl rfl dX9_strongest_2 (fun H locs hP hS => ?_)
  refine lv_iconst (v := (-1)) hx hb dX9_strongest_5 (by decide) ?_
  refine lv_istore_n (lv' := [(1, .int (-1)), (0, .ref (am 0))]) hx hb dX9_strongest_6 rfl hl (by decide) rfl (fun ls hl => ?_)
  refine lv_lconst (v := 0) hx hb dX9_strongest_7 (by decide) ?_
  refine lv_lstore_n (lv' := [(2, .long 0), (1, .int (-1)), (0, .ref (am 0))]) hx hb dX9_strongest_8 rfl hl (by decide) rfl (fun ls hl => ?_)
  refine lv_iconst (v := 1) hx hb dX9_strongest_9 (by decide) ?_
  refine lv_istore (lv' := [(4, .int 1), (2, .long 0), (1, .int (-1)), (0, .ref (am 0))]) hx hb dX9_strongest_10 hl (by decide) rfl (fun ls hl => ?_)
  have hlp1 : ∀ (n i : Nat), i + n = 13 → 1 ≤ i → ∀ (H : Heap) (locs : List Loc), va_P (dC, dI) vwCl [(am 0, .inr (9, mf0 am)), (am 25, .inl (cI, 5, .inl (fun _ => 0)))] H → va_S A s.heap H locs → ∀ (ls : Array Slot), lv_has ls 7 [(4, .int (nI i)), (2, .long 0), (1, .int (-1)), (0, .ref (am 0))] → W p l e ({ frames := 3, cells := 0, slots := 0, locals := 71 } : Room) s m ([.ref (am 0)] : List Value).toArray below meth c H locs 0 0 Q (F0 m 12 ls []) := by
    intro n
    induction n with
    | zero =>
      intro i hi hi0 H locs hP hS ls hl
      obtain rfl : i = 13 := by omega
      have hl : lv_has ls 7 [(4, .int 13), (2, .long 0), (1, .int (-1)), (0, .ref (am 0))] := hl
      refine lv_iload hx hb dX9_strongest_12 (lv_at hl 0 rfl) ?_
      refine lv_bipush (v := 12) hx hb dX9_strongest_14 (by decide) ?_
      refine lv_icmp_gt (tgt := 73) hx hb dX9_strongest_16 (by decide) (fun _ => ?_) (fun c => absurd (by decide) c)
      refine lv_iload_n hx hb dX9_strongest_73 rfl (lv_at hl 2 rfl) ?_
      have hP9 := hP.sub (ws' := []) [] rfl
      have hD9 := hD.sub (ws' := []) [] (by decide) rfl
      exact z_iret () hx hb hr hlocks hK hP9 hD9 hS hAe hQ rfl rfl dX9_strongest_74
    | succ n ih =>
      intro i hi hi0 H locs hP hS ls hl
      have hlt : i < 13 := by omega
      refine lv_iload hx hb dX9_strongest_12 (lv_at hl 0 rfl) ?_
      refine lv_bipush (v := 12) hx hb dX9_strongest_14 (by decide) ?_
      refine lv_icmp_gt (tgt := 73) hx hb dX9_strongest_16 (by decide) (fun c => absurd (show 12 < (i : Int) from z_lt (by decide) (nI_toInt (by omega)) c) (by omega)) (fun _ => ?_)
      refine lv_aload_n hx hb dX9_strongest_19 rfl (lv_at hl 3 rfl) ?_
      refine lv_iconst (v := 1) hx hb dX9_strongest_20 (by decide) ?_
      refine lv_iload hx hb dX9_strongest_21 (lv_at hl 0 rfl) ?_
      refine lv_iconst (v := 1) hx hb dX9_strongest_23 (by decide) ?_
      refine lv_isub hx hb dX9_strongest_24 ?_
      refine lv_ishl hx hb dX9_strongest_25 ?_
      refine lv_aload_n hx hb dX9_strongest_26 rfl (lv_at hl 3 rfl) ?_
      refine va_get (D := (dC, dI)) (ci := 9) (v := .ref (am 25)) (C := RX9) (T := TX9) (N := 60) hx hb hts hi9 hown hK hP 0 rfl rfl 35 (by decide) hk1 (fun _ h9 => h9) rfl dX9_strongest_27 ?_
      refine lv_iconst (v := 0) hx hb dX9_strongest_30 (by decide) ?_
      refine va_iald hx hb hK hP 1 1 rfl rfl (z_in (a := 0) (by decide) (by decide) (by decide)) dX9_strongest_31 ?_
      refine z_topi (y := 0) rfl ?_
      refine z_finl (w' := fun (u2 : Unit) => [(am 0, .inr (9, mf0 am)), (am 25, .inl (cI, 5, .inl (fun _ => 0)))]) (va_runV (As := [.int (1 <<< (((nI i) - 1) &&& 31)), .int 0]) (rest := []) ⟨hx, hb, hml, hown, hts⟩ (c_X9_strongBy_208 l dC dI cB cI cJ cZ cP cQ am H.size (1 <<< (((nI i) - 1) &&& 31))) (cwV 2 hts gX9_strongest_X9_strongBy rfl rfl rfl (by decide +kernel) ⟨Nat.le_of_ble_eq_true rfl, Nat.le_of_ble_eq_true rfl⟩) (z_pV (ci := 9) hK hP hD zX_nil [0] (by decide) rfl rfl 0 rfl) rfl rfl hl.1 rfl (lv_room (Nat.le_of_ble_eq_true rfl)) dX9_strongest_32 ⟨Nat.le_of_ble_eq_true rfl, Nat.le_of_ble_eq_true rfl⟩) hP hD hS hA [0] [1] [1, 0] rfl rfl (by decide) (by decide) (fun _ => rfl) (by decide) (fun r3 u2 H locs hp4 hP hD hS => ?_)
      have hP : va_P (dC, dI) vwCl [(am 0, .inr (9, mf0 am)), (am 25, .inl (cI, 5, .inl (fun _ => 0)))] H := hP
      have hD : va_D A [(am 0, .inr (9, mf0 am)), (am 25, .inl (cI, 5, .inl (fun _ => 0)))] := hD
      refine W.widen (k := 0) (n := 0) (by decide) (by decide) ?_
      rcases hp4 with ⟨rfl, f5⟩ | ⟨rfl, f6, f7⟩ | ⟨rfl, f8, f9⟩
      · refine lv_lstore (lv' := [(5, .long (-2000000000)), (4, .int (nI i)), (2, .long 0), (1, .int (-1)), (0, .ref (am 0))]) hx hb dX9_strongest_35 hl (by decide) rfl (fun ls hl => ?_)
        refine lv_lload hx hb dX9_strongest_37 (lv_at hl 0 rfl) ?_
        refine lv_ldc2 hx hb hown hk2 dX9_strongest_39 ?_
        refine W.lcmp hx hb dX9_strongest_42 ?_
        refine z_topi (y := 0) (by decide +kernel) ?_
        refine lv_if_eq (tgt := 67) hx hb dX9_strongest_43 (by decide) (fun _ => ?_) (fun c => absurd (by decide) c)
        refine lv_iinc (v := nI (i + 1)) (lv' := [(4, .int (nI (i + 1))), (5, .long (-2000000000)), (2, .long 0), (1, .int (-1)), (0, .ref (am 0))]) hx hb dX9_strongest_67 hl (k := 1) rfl (nI_1 i) (by decide) rfl (fun ls hl => ?_)
        refine lv_goto (tgt := 12) hx hb dX9_strongest_70 (by decide) ?_
        exact ih (i + 1) (by omega) (by omega) _ _ hP hS ls (lv_sub hl [0, 2, 3, 4] rfl)
      · refine lv_lstore (lv' := [(5, .long (-2000000000)), (4, .int (nI i)), (2, .long 0), (1, .int (-1)), (0, .ref (am 0))]) hx hb dX9_strongest_35 hl (by decide) rfl (fun ls hl => ?_)
        refine lv_lload hx hb dX9_strongest_37 (lv_at hl 0 rfl) ?_
        refine lv_ldc2 hx hb hown hk2 dX9_strongest_39 ?_
        refine W.lcmp hx hb dX9_strongest_42 ?_
        refine z_topi (y := 0) (by decide +kernel) ?_
        refine lv_if_eq (tgt := 67) hx hb dX9_strongest_43 (by decide) (fun _ => ?_) (fun c => absurd (by decide) c)
        refine lv_iinc (v := nI (i + 1)) (lv' := [(4, .int (nI (i + 1))), (5, .long (-2000000000)), (2, .long 0), (1, .int (-1)), (0, .ref (am 0))]) hx hb dX9_strongest_67 hl (k := 1) rfl (nI_1 i) (by decide) rfl (fun ls hl => ?_)
        refine lv_goto (tgt := 12) hx hb dX9_strongest_70 (by decide) ?_
        exact ih (i + 1) (by omega) (by omega) _ _ hP hS ls (lv_sub hl [0, 2, 3, 4] rfl)
      · refine lv_lstore (lv' := [(5, .long (-2000000000)), (4, .int (nI i)), (2, .long 0), (1, .int (-1)), (0, .ref (am 0))]) hx hb dX9_strongest_35 hl (by decide) rfl (fun ls hl => ?_)
        refine lv_lload hx hb dX9_strongest_37 (lv_at hl 0 rfl) ?_
        refine lv_ldc2 hx hb hown hk2 dX9_strongest_39 ?_
        refine W.lcmp hx hb dX9_strongest_42 ?_
        refine z_topi (y := 0) (by decide +kernel) ?_
        refine lv_if_eq (tgt := 67) hx hb dX9_strongest_43 (by decide) (fun _ => ?_) (fun c => absurd (by decide) c)
        refine lv_iinc (v := nI (i + 1)) (lv' := [(4, .int (nI (i + 1))), (5, .long (-2000000000)), (2, .long 0), (1, .int (-1)), (0, .ref (am 0))]) hx hb dX9_strongest_67 hl (k := 1) rfl (nI_1 i) (by decide) rfl (fun ls hl => ?_)
        refine lv_goto (tgt := 12) hx hb dX9_strongest_70 (by decide) ?_
        exact ih (i + 1) (by omega) (by omega) _ _ hP hS ls (lv_sub hl [0, 2, 3, 4] rfl)
  exact hlp1 (13 - 1) 1 rfl (by omega) _ _ hP hS ls (lv_sub hl [0, 1, 2, 3] rfl)
set_option maxHeartbeats 4000000 in
set_option maxRecDepth 100000 in
theorem c_X9_in_211 (l : Launch) (dC : Nat → ClassId) (dI : Nat → Nat → Nat) (cB cI cJ cZ cP cQ : ClassId) (sz : Nat) (p0 : Int32) : Met l yX9_in wsX9_in ({ frames := 0, cells := 0, slots := 0, locals := 0 } : Room) (zPc [.long p0.toInt64, .long 0, .long 1000000] (dC, dI) (zT cB cI cJ cZ cP cQ) [] sz [] []) (va_Qi (fun r _ => (fun r => (r = 0 ∧ p0.toInt < 0) ∨ (r = 0 ∧ 0 ≤ p0.toInt ∧ 1000000 < p0.toInt) ∨ (r = 1 ∧ 0 ≤ p0.toInt ∧ p0.toInt ≤ 1000000)) r) (zB (dC, dI) (zT cB cI cJ cZ cP cQ) (fun _ : Unit => []) [] sz) (va_A [] sz)) 0 0 (va_A [] sz) := by
  refine z_enter (cc := cX9_in) (maxL := 6) (ret := (some .boolean)) (by decide) rfl (Nat.le_of_ble_eq_true rfl) ?_
  intro p e s m below meth c A ls Q H locs hx hb hr hml hown hts hlocks hin hK hP hD hA hX hS hAe hQ hl
  have hown : s.vm.findClass RX9 = some m.cls := hown
  have hl : lv_has ls 6 [(0, .long p0.toInt64), (2, .long 0), (4, .long 1000000)] := hl
  refine lv_lload_n hx hb dX9_in_0 rfl (lv_at hl 0 rfl) ?_
  refine lv_lload_n hx hb dX9_in_1 rfl (lv_at hl 1 rfl) ?_
  refine W.lcmp hx hb dX9_in_2 ?_
  refine lv_if_lt (tgt := 17) hx hb dX9_in_3 (by decide) (fun c_1 => ?_) (fun c_1 => ?_)
  · have f2 : p0.toInt < 0 := z_llt (z_i2l p0) (by decide) c_1
    refine lv_iconst (v := 0) hx hb dX9_in_17 (by decide) ?_
    exact z_zret () hx hb hr hlocks hK hP hD hS hAe hQ rfl (Or.inl (⟨rfl, f2⟩)) (by decide) dX9_in_18
  · have f2 : 0 ≤ p0.toInt := z_lnlt (z_i2l p0) (by decide) c_1
    refine lv_lload_n hx hb dX9_in_6 rfl (lv_at hl 0 rfl) ?_
    refine lv_lload hx hb dX9_in_7 (lv_at hl 2 rfl) ?_
    refine W.lcmp hx hb dX9_in_9 ?_
    refine lv_if_gt (tgt := 17) hx hb dX9_in_10 (by decide) (fun c_3 => ?_) (fun c_3 => ?_)
    · have f4 : 1000000 < p0.toInt := z_lgt (z_i2l p0) (by decide) c_3
      refine lv_iconst (v := 0) hx hb dX9_in_17 (by decide) ?_
      exact z_zret () hx hb hr hlocks hK hP hD hS hAe hQ rfl (Or.inr (Or.inl ⟨rfl, f2, f4⟩)) (by decide) dX9_in_18
    · have f4 : p0.toInt ≤ 1000000 := z_lngt (z_i2l p0) (by decide) c_3
      refine lv_iconst (v := 1) hx hb dX9_in_13 (by decide) ?_
      refine lv_goto (tgt := 18) hx hb dX9_in_14 (by decide) ?_
      exact z_zret () hx hb hr hlocks hK hP hD hS hAe hQ rfl (Or.inr (Or.inr ⟨rfl, f2, f4⟩)) (by decide) dX9_in_18
set_option maxHeartbeats 4000000 in
set_option maxRecDepth 100000 in
theorem c_X9_needs_211 (l : Launch) (dC : Nat → ClassId) (dI : Nat → Nat → Nat) (cB cI cJ cZ cP cQ : ClassId) (am : Nat → Nat) (sz : Nat) (p1 : Int32) (p2 : Int32) : Met l yX9_needs wsX9_needs ({ frames := 2, cells := 0, slots := 0, locals := 45 } : Room) (zPc [.ref (am 0), .int p1, .int p2] (dC, dI) (zT cB cI cJ cZ cP cQ) [(am 0, .inr (9, mf0 am)), (am 25, .inl (cI, 5, .inl (fun _ => 0)))] sz [] []) (va_Qi (fun r _ => (fun r => (r = (-2) ∧ p1.toInt < 1) ∨ (r = (-2) ∧ 1 ≤ p1.toInt ∧ 4094 < p1.toInt) ∨ (r = (-2) ∧ 1 ≤ p1.toInt ∧ p1.toInt ≤ 4094 ∧ p2.toInt < 0) ∨ (r = (-2) ∧ 1 ≤ p1.toInt ∧ p1.toInt ≤ 4094 ∧ 0 ≤ p2.toInt ∧ 1000000 < p2.toInt) ∨ (r = (-1) ∧ 1 ≤ p1.toInt ∧ p1.toInt ≤ 4094 ∧ 0 ≤ p2.toInt ∧ p2.toInt ≤ 1000000)) r) (zB (dC, dI) (zT cB cI cJ cZ cP cQ) (fun _ : Unit => []) [(am 0, .inr (9, mf0 am)), (am 25, .inl (cI, 5, .inl (fun _ => 0)))] sz) (va_A [(am 0, .inr (9, mf0 am)), (am 25, .inl (cI, 5, .inl (fun _ => 0)))] sz)) 0 0 (va_A [(am 0, .inr (9, mf0 am)), (am 25, .inl (cI, 5, .inl (fun _ => 0)))] sz) := by
  refine z_enter (cc := cX9_needs) (maxL := 6) (ret := (some .int)) (by decide) rfl (Nat.le_of_ble_eq_true rfl) ?_
  intro p e s m below meth c A ls Q H locs hx hb hr hml hown hts hlocks hin hK hP hD hA hX hS hAe hQ hl
  have hown : s.vm.findClass RX9 = some m.cls := hown
  have hi9 : ∀ w ∈ wsX90, w ∈ wsX9_needs := fun w h => List.mem_cons_of_mem _ (List.mem_append_right _ h)
  have hk0 := hts (.fieldLink RX9 125 "MonthPushModel" "thrown" "I") (by decide +kernel)
  have hk1 := hts (.constantLong RX9 461 1000000) (by decide +kernel)
  have hk2 := hts (.fieldLink RX9 89 "MonthPushModel" "sheets" "[I") (by decide +kernel)
  have hl : lv_has ls 6 [(0, .ref (am 0)), (1, .int p1), (2, .int p2)] := hl
  refine lv_aload_n hx hb dX9_needs_0 rfl (lv_at hl 0 rfl) ?_
  refine lv_iconst (v := 0) hx hb dX9_needs_1 (by decide) ?_
  refine z_put0 (D := (dC, dI)) (ci := 9) (v := .int 0) (ty := .int) (C := RX9) (T := TX9) (N := 60) hx hb hts hi9 tyX9 tyX9_ok nmX9 hown hK hP hD hS 0 rfl rfl 0 (by decide) hk0 (fun _ h9 => h9) rfl (by decide +kernel) rfl rfl rfl dX9_needs_2 (fun H locs hP hS => ?_)
  refine lv_iload_n hx hb dX9_needs_5 rfl (lv_at hl 1 rfl) ?_
  refine z_fini (w' := fun (u1 : Unit) => [(am 0, .inr (9, mf0 am)), (am 25, .inl (cI, 5, .inl (fun _ => 0)))]) (va_runS (As := [.int p1]) (rest := []) ⟨hx, hb, hml, hown, hts⟩ (c_X9_isPush_193 l dC dI cB cI cJ cZ cP cQ H.size p1) (va_cwS 1 hts gX9_needs_X9_isPush rfl rfl rfl (by decide +kernel) ⟨Nat.le_of_ble_eq_true rfl, Nat.le_of_ble_eq_true rfl⟩) (z_pS hK hP hD zX_nil [] (by decide) rfl) rfl rfl hl.1 rfl (lv_room (Nat.le_of_ble_eq_true rfl)) dX9_needs_6 ⟨Nat.le_of_ble_eq_true rfl, Nat.le_of_ble_eq_true rfl⟩) hP hD hS hA [] [0, 1] [0, 1] rfl rfl (by decide) (by decide) (fun _ => rfl) (by decide) (fun r2 u1 H locs hp3 hP hD hS => ?_)
  have hP : va_P (dC, dI) vwCl [(am 0, .inr (9, mf0 am)), (am 25, .inl (cI, 5, .inl (fun _ => 0)))] H := hP
  have hD : va_D A [(am 0, .inr (9, mf0 am)), (am 25, .inl (cI, 5, .inl (fun _ => 0)))] := hD
  refine W.widen (k := 0) (n := 0) (by decide) (by decide) ?_
  rcases hp3 with ⟨rfl, f4⟩ | ⟨rfl, f5, f6⟩ | ⟨rfl, f7, f8⟩
  · refine lv_if_eq (tgt := 24) hx hb dX9_needs_9 (by decide) (fun _ => ?_) (fun c => absurd (by decide) c)
    refine lv_bipush (v := (-2)) hx hb dX9_needs_24 (by decide) ?_
    have hP9 := hP.sub (ws' := []) [] rfl
    have hD9 := hD.sub (ws' := []) [] (by decide) rfl
    exact z_iret () hx hb hr hlocks hK hP9 hD9 hS hAe hQ rfl (Or.inl (⟨rfl, f4⟩)) dX9_needs_26
  · refine lv_if_eq (tgt := 24) hx hb dX9_needs_9 (by decide) (fun _ => ?_) (fun c => absurd (by decide) c)
    refine lv_bipush (v := (-2)) hx hb dX9_needs_24 (by decide) ?_
    have hP9 := hP.sub (ws' := []) [] rfl
    have hD9 := hD.sub (ws' := []) [] (by decide) rfl
    exact z_iret () hx hb hr hlocks hK hP9 hD9 hS hAe hQ rfl (Or.inr (Or.inl ⟨rfl, f5, f6⟩)) dX9_needs_26
  · refine lv_if_eq (tgt := 24) hx hb dX9_needs_9 (by decide) (fun c => absurd c (by decide)) (fun _ => ?_)
    refine lv_iload_n hx hb dX9_needs_12 rfl (lv_at hl 2 rfl) ?_
    refine lv_i2l hx hb dX9_needs_13 rfl ?_
    refine lv_lconst (v := 0) hx hb dX9_needs_14 (by decide) ?_
    refine lv_ldc2 hx hb hown hk1 dX9_needs_15 ?_
    refine z_fini (w' := fun (u9 : Unit) => [(am 0, .inr (9, mf0 am)), (am 25, .inl (cI, 5, .inl (fun _ => 0)))]) (va_runS (As := [.long p2.toInt64, .long 0, .long 1000000]) (rest := []) ⟨hx, hb, hml, hown, hts⟩ (c_X9_in_211 l dC dI cB cI cJ cZ cP cQ H.size p2) (va_cwS 3 hts gX9_needs_X9_in rfl rfl rfl (by decide +kernel) ⟨Nat.le_of_ble_eq_true rfl, Nat.le_of_ble_eq_true rfl⟩) (z_pS hK hP hD zX_nil [] (by decide) rfl) rfl rfl hl.1 rfl (lv_room (Nat.le_of_ble_eq_true rfl)) dX9_needs_18 ⟨Nat.le_of_ble_eq_true rfl, Nat.le_of_ble_eq_true rfl⟩) hP hD hS hA [] [0, 1] [0, 1] rfl rfl (by decide) (by decide) (fun _ => rfl) (by decide) (fun r10 u9 H locs hp11 hP hD hS => ?_)
    have hP : va_P (dC, dI) vwCl [(am 0, .inr (9, mf0 am)), (am 25, .inl (cI, 5, .inl (fun _ => 0)))] H := hP
    have hD : va_D A [(am 0, .inr (9, mf0 am)), (am 25, .inl (cI, 5, .inl (fun _ => 0)))] := hD
    refine W.widen (k := 0) (n := 0) (by decide) (by decide) ?_
    rcases hp11 with ⟨rfl, f12⟩ | ⟨rfl, f13, f14⟩ | ⟨rfl, f15, f16⟩
    · refine lv_if_ne (tgt := 27) hx hb dX9_needs_21 (by decide) (fun c => absurd (by decide) c) (fun _ => ?_)
      refine lv_bipush (v := (-2)) hx hb dX9_needs_24 (by decide) ?_
      have hP9 := hP.sub (ws' := []) [] rfl
      have hD9 := hD.sub (ws' := []) [] (by decide) rfl
      exact z_iret () hx hb hr hlocks hK hP9 hD9 hS hAe hQ rfl (Or.inr (Or.inr (Or.inl ⟨rfl, f7, f8, f12⟩))) dX9_needs_26
    · refine lv_if_ne (tgt := 27) hx hb dX9_needs_21 (by decide) (fun c => absurd (by decide) c) (fun _ => ?_)
      refine lv_bipush (v := (-2)) hx hb dX9_needs_24 (by decide) ?_
      have hP9 := hP.sub (ws' := []) [] rfl
      have hD9 := hD.sub (ws' := []) [] (by decide) rfl
      exact z_iret () hx hb hr hlocks hK hP9 hD9 hS hAe hQ rfl (Or.inr (Or.inr (Or.inr (Or.inl ⟨rfl, f7, f8, f13, f14⟩)))) dX9_needs_26
    · refine lv_if_ne (tgt := 27) hx hb dX9_needs_21 (by decide) (fun _ => ?_) (fun c => absurd c (by decide))
      refine lv_iconst (v := 3) hx hb dX9_needs_27 (by decide) ?_
      refine lv_istore_n (lv' := [(3, .int 3), (0, .ref (am 0)), (1, .int p1), (2, .int p2)]) hx hb dX9_needs_28 rfl hl (by decide) rfl (fun ls hl => ?_)
      refine lv_iload_n hx hb dX9_needs_29 rfl (lv_at hl 0 rfl) ?_
      refine lv_aload_n hx hb dX9_needs_30 rfl (lv_at hl 1 rfl) ?_
      refine va_get (D := (dC, dI)) (ci := 9) (v := .ref (am 25)) (C := RX9) (T := TX9) (N := 60) hx hb hts hi9 hown hK hP 0 rfl rfl 35 (by decide) hk2 (fun _ h9 => h9) rfl dX9_needs_31 ?_
      refine lv_iconst (v := 0) hx hb dX9_needs_34 (by decide) ?_
      refine va_iald hx hb hK hP 1 1 rfl rfl (z_in (a := 0) (by decide) (by decide) (by decide)) dX9_needs_35 ?_
      refine z_topi (y := 0) rfl ?_
      refine lv_icmp_gt (tgt := 72) hx hb dX9_needs_36 (by decide) (fun _ => ?_) (fun c => absurd (by decide) c)
      refine lv_iconst (v := (-1)) hx hb dX9_needs_72 (by decide) ?_
      have hP9 := hP.sub (ws' := []) [] rfl
      have hD9 := hD.sub (ws' := []) [] (by decide) rfl
      exact z_iret () hx hb hr hlocks hK hP9 hD9 hS hAe hQ rfl (Or.inr (Or.inr (Or.inr (Or.inr ⟨rfl, f7, f8, f15, f16⟩)))) dX9_needs_73
set_option maxHeartbeats 4000000 in
set_option maxRecDepth 100000 in
theorem c_X9_in_214 (l : Launch) (dC : Nat → ClassId) (dI : Nat → Nat → Nat) (cB cI cJ cZ cP cQ : ClassId) (sz : Nat) (p0 : Int32) : Met l yX9_in wsX9_in ({ frames := 0, cells := 0, slots := 0, locals := 0 } : Room) (zPc [.long p0.toInt64, .long 1, .long 10] (dC, dI) (zT cB cI cJ cZ cP cQ) [] sz [] []) (va_Qi (fun r _ => (fun r => (r = 0 ∧ p0.toInt < 1) ∨ (r = 0 ∧ 1 ≤ p0.toInt ∧ 10 < p0.toInt) ∨ (r = 1 ∧ 1 ≤ p0.toInt ∧ p0.toInt ≤ 10)) r) (zB (dC, dI) (zT cB cI cJ cZ cP cQ) (fun _ : Unit => []) [] sz) (va_A [] sz)) 0 0 (va_A [] sz) := by
  refine z_enter (cc := cX9_in) (maxL := 6) (ret := (some .boolean)) (by decide) rfl (Nat.le_of_ble_eq_true rfl) ?_
  intro p e s m below meth c A ls Q H locs hx hb hr hml hown hts hlocks hin hK hP hD hA hX hS hAe hQ hl
  have hown : s.vm.findClass RX9 = some m.cls := hown
  have hl : lv_has ls 6 [(0, .long p0.toInt64), (2, .long 1), (4, .long 10)] := hl
  refine lv_lload_n hx hb dX9_in_0 rfl (lv_at hl 0 rfl) ?_
  refine lv_lload_n hx hb dX9_in_1 rfl (lv_at hl 1 rfl) ?_
  refine W.lcmp hx hb dX9_in_2 ?_
  refine lv_if_lt (tgt := 17) hx hb dX9_in_3 (by decide) (fun c_1 => ?_) (fun c_1 => ?_)
  · have f2 : p0.toInt < 1 := z_llt (z_i2l p0) (by decide) c_1
    refine lv_iconst (v := 0) hx hb dX9_in_17 (by decide) ?_
    exact z_zret () hx hb hr hlocks hK hP hD hS hAe hQ rfl (Or.inl (⟨rfl, f2⟩)) (by decide) dX9_in_18
  · have f2 : 1 ≤ p0.toInt := z_lnlt (z_i2l p0) (by decide) c_1
    refine lv_lload_n hx hb dX9_in_6 rfl (lv_at hl 0 rfl) ?_
    refine lv_lload hx hb dX9_in_7 (lv_at hl 2 rfl) ?_
    refine W.lcmp hx hb dX9_in_9 ?_
    refine lv_if_gt (tgt := 17) hx hb dX9_in_10 (by decide) (fun c_3 => ?_) (fun c_3 => ?_)
    · have f4 : 10 < p0.toInt := z_lgt (z_i2l p0) (by decide) c_3
      refine lv_iconst (v := 0) hx hb dX9_in_17 (by decide) ?_
      exact z_zret () hx hb hr hlocks hK hP hD hS hAe hQ rfl (Or.inr (Or.inl ⟨rfl, f2, f4⟩)) (by decide) dX9_in_18
    · have f4 : p0.toInt ≤ 10 := z_lngt (z_i2l p0) (by decide) c_3
      refine lv_iconst (v := 1) hx hb dX9_in_13 (by decide) ?_
      refine lv_goto (tgt := 18) hx hb dX9_in_14 (by decide) ?_
      exact z_zret () hx hb hr hlocks hK hP hD hS hAe hQ rfl (Or.inr (Or.inr ⟨rfl, f2, f4⟩)) (by decide) dX9_in_18
set_option maxHeartbeats 4000000 in
set_option maxRecDepth 100000 in
theorem c_X9_isSpan_214 (l : Launch) (dC : Nat → ClassId) (dI : Nat → Nat → Nat) (cB cI cJ cZ cP cQ : ClassId) (sz : Nat) (p0 : Int32) (p1 : Int32) : Met l yX9_isSpan wsX9_isSpan ({ frames := 2, cells := 0, slots := 0, locals := 45 } : Room) (zPc [.int p0, .int p1] (dC, dI) (zT cB cI cJ cZ cP cQ) [] sz [] []) (va_Qi (fun r _ => (fun r => (r = 0 ∧ p0.toInt < 1) ∨ (r = 0 ∧ 1 ≤ p0.toInt ∧ 4094 < p0.toInt) ∨ (r = 0 ∧ 1 ≤ p0.toInt ∧ p0.toInt ≤ 4094 ∧ p1.toInt < 1) ∨ (r = 0 ∧ 1 ≤ p0.toInt ∧ p0.toInt ≤ 4094 ∧ 1 ≤ p1.toInt ∧ 10 < p1.toInt) ∨ (r = 1 ∧ 1 ≤ p0.toInt ∧ p0.toInt ≤ 4094 ∧ 1 ≤ p1.toInt ∧ p1.toInt ≤ 10)) r) (zB (dC, dI) (zT cB cI cJ cZ cP cQ) (fun _ : Unit => []) [] sz) (va_A [] sz)) 0 0 (va_A [] sz) := by
  refine z_enter (cc := cX9_isSpan) (maxL := 2) (ret := (some .boolean)) (by decide) rfl (Nat.le_of_ble_eq_true rfl) ?_
  intro p e s m below meth c A ls Q H locs hx hb hr hml hown hts hlocks hin hK hP hD hA hX hS hAe hQ hl
  have hown : s.vm.findClass RX9 = some m.cls := hown
  have hk0 := hts (.constantLong RX9 479 10) (by decide +kernel)
  have hl : lv_has ls 2 [(0, .int p0), (1, .int p1)] := hl
  refine lv_iload_n hx hb dX9_isSpan_0 rfl (lv_at hl 0 rfl) ?_
  refine z_fini (w' := fun (u1 : Unit) => []) (va_runS (As := [.int p0]) (rest := []) ⟨hx, hb, hml, hown, hts⟩ (c_X9_isPush_193 l dC dI cB cI cJ cZ cP cQ H.size p0) (va_cwS 1 hts gX9_isSpan_X9_isPush rfl rfl rfl (by decide +kernel) ⟨Nat.le_of_ble_eq_true rfl, Nat.le_of_ble_eq_true rfl⟩) (z_pS hK hP hD zX_nil [] (by decide) rfl) rfl rfl hl.1 rfl (lv_room (Nat.le_of_ble_eq_true rfl)) dX9_isSpan_1 ⟨Nat.le_of_ble_eq_true rfl, Nat.le_of_ble_eq_true rfl⟩) hP hD hS hA [] [] [] rfl rfl (by decide) (by decide) (fun _ => rfl) (by decide) (fun r2 u1 H locs hp3 hP hD hS => ?_)
  have hP : va_P (dC, dI) vwCl [] H := hP
  have hD : va_D A [] := hD
  refine W.widen (k := 0) (n := 0) (by decide) (by decide) ?_
  rcases hp3 with ⟨rfl, f4⟩ | ⟨rfl, f5, f6⟩ | ⟨rfl, f7, f8⟩
  · refine lv_if_eq (tgt := 23) hx hb dX9_isSpan_4 (by decide) (fun _ => ?_) (fun c => absurd (by decide) c)
    refine lv_iconst (v := 0) hx hb dX9_isSpan_23 (by decide) ?_
    exact z_zret () hx hb hr hlocks hK hP hD hS hAe hQ rfl (Or.inl (⟨rfl, f4⟩)) (by decide) dX9_isSpan_24
  · refine lv_if_eq (tgt := 23) hx hb dX9_isSpan_4 (by decide) (fun _ => ?_) (fun c => absurd (by decide) c)
    refine lv_iconst (v := 0) hx hb dX9_isSpan_23 (by decide) ?_
    exact z_zret () hx hb hr hlocks hK hP hD hS hAe hQ rfl (Or.inr (Or.inl ⟨rfl, f5, f6⟩)) (by decide) dX9_isSpan_24
  · refine lv_if_eq (tgt := 23) hx hb dX9_isSpan_4 (by decide) (fun c => absurd c (by decide)) (fun _ => ?_)
    refine lv_iload_n hx hb dX9_isSpan_7 rfl (lv_at hl 1 rfl) ?_
    refine lv_i2l hx hb dX9_isSpan_8 rfl ?_
    refine lv_lconst (v := 1) hx hb dX9_isSpan_9 (by decide) ?_
    refine lv_ldc2 hx hb hown hk0 dX9_isSpan_10 ?_
    refine z_fini (w' := fun (u9 : Unit) => []) (va_runS (As := [.long p1.toInt64, .long 1, .long 10]) (rest := []) ⟨hx, hb, hml, hown, hts⟩ (c_X9_in_214 l dC dI cB cI cJ cZ cP cQ H.size p1) (va_cwS 3 hts gX9_isSpan_X9_in rfl rfl rfl (by decide +kernel) ⟨Nat.le_of_ble_eq_true rfl, Nat.le_of_ble_eq_true rfl⟩) (z_pS hK hP hD zX_nil [] (by decide) rfl) rfl rfl hl.1 rfl (lv_room (Nat.le_of_ble_eq_true rfl)) dX9_isSpan_13 ⟨Nat.le_of_ble_eq_true rfl, Nat.le_of_ble_eq_true rfl⟩) hP hD hS hA [] [] [] rfl rfl (by decide) (by decide) (fun _ => rfl) (by decide) (fun r10 u9 H locs hp11 hP hD hS => ?_)
    have hP : va_P (dC, dI) vwCl [] H := hP
    have hD : va_D A [] := hD
    refine W.widen (k := 0) (n := 0) (by decide) (by decide) ?_
    rcases hp11 with ⟨rfl, f12⟩ | ⟨rfl, f13, f14⟩ | ⟨rfl, f15, f16⟩
    · refine lv_if_eq (tgt := 23) hx hb dX9_isSpan_16 (by decide) (fun _ => ?_) (fun c => absurd (by decide) c)
      refine lv_iconst (v := 0) hx hb dX9_isSpan_23 (by decide) ?_
      exact z_zret () hx hb hr hlocks hK hP hD hS hAe hQ rfl (Or.inr (Or.inr (Or.inl ⟨rfl, f7, f8, f12⟩))) (by decide) dX9_isSpan_24
    · refine lv_if_eq (tgt := 23) hx hb dX9_isSpan_16 (by decide) (fun _ => ?_) (fun c => absurd (by decide) c)
      refine lv_iconst (v := 0) hx hb dX9_isSpan_23 (by decide) ?_
      exact z_zret () hx hb hr hlocks hK hP hD hS hAe hQ rfl (Or.inr (Or.inr (Or.inr (Or.inl ⟨rfl, f7, f8, f13, f14⟩)))) (by decide) dX9_isSpan_24
    · refine lv_if_eq (tgt := 23) hx hb dX9_isSpan_16 (by decide) (fun c => absurd c (by decide)) (fun _ => ?_)
      refine lv_iconst (v := 1) hx hb dX9_isSpan_19 (by decide) ?_
      refine lv_goto (tgt := 24) hx hb dX9_isSpan_20 (by decide) ?_
      exact z_zret () hx hb hr hlocks hK hP hD hS hAe hQ rfl (Or.inr (Or.inr (Or.inr (Or.inr ⟨rfl, f7, f8, f15, f16⟩)))) (by decide) dX9_isSpan_24
set_option maxHeartbeats 4000000 in
set_option maxRecDepth 100000 in
theorem c_X9_spans_215 (l : Launch) (dC : Nat → ClassId) (dI : Nat → Nat → Nat) (cB cI cJ cZ cP cQ : ClassId) (am : Nat → Nat) (sz : Nat) (p1 : Int32) : Met l yX9_spans wsX9_spans ({ frames := 1, cells := 0, slots := 0, locals := 21 } : Room) (zPc [.ref (am 0), .int p1] (dC, dI) (zT cB cI cJ cZ cP cQ) [(am 0, .inr (9, mf0 am))] sz [] []) (va_Qi (fun r _ => (fun r => r = 0) r) (zB (dC, dI) (zT cB cI cJ cZ cP cQ) (fun _ : Unit => [(am 0, .inr (9, mf0 am))]) [(am 0, .inr (9, mf0 am))] sz) (va_A [(am 0, .inr (9, mf0 am))] sz)) 0 0 (va_A [(am 0, .inr (9, mf0 am))] sz) := by
  refine z_enter (cc := cX9_spans) (maxL := 3) (ret := (some .boolean)) (by decide) rfl (Nat.le_of_ble_eq_true rfl) ?_
  intro p e s m below meth c A ls Q H locs hx hb hr hml hown hts hlocks hin hK hP hD hA hX hS hAe hQ hl
  have hown : s.vm.findClass RX9 = some m.cls := hown
  have hl : lv_has ls 3 [(0, .ref (am 0)), (1, .int p1)] := hl
  refine lv_aload_n hx hb dX9_spans_0 rfl (lv_at hl 0 rfl) ?_
  refine z_finv (w' := fun (u1 : Unit) => [(am 0, .inr (9, mf0 am))]) (va_runV (As := []) (rest := []) ⟨hx, hb, hml, hown, hts⟩ (c_X9_gathers_188 l dC dI cB cI cJ cZ cP cQ am H.size) (cwV 0 hts gX9_spans_X9_gathers rfl rfl rfl (by decide +kernel) ⟨Nat.le_of_ble_eq_true rfl, Nat.le_of_ble_eq_true rfl⟩) (z_pV (ci := 9) hK hP hD zX_nil [0] (by decide) rfl rfl 0 rfl) rfl rfl hl.1 rfl (lv_room (Nat.le_of_ble_eq_true rfl)) dX9_spans_1 ⟨Nat.le_of_ble_eq_true rfl, Nat.le_of_ble_eq_true rfl⟩) hP hD hS hA [0] [] [0] rfl rfl (by decide) (by decide) (fun _ => rfl) (by decide) (fun u1 H locs hp3 hP hD hS => ?_)
  have hP : va_P (dC, dI) vwCl [(am 0, .inr (9, mf0 am))] H := hP
  have hD : va_D A [(am 0, .inr (9, mf0 am))] := hD
  refine W.widen (k := 0) (n := 0) (by decide) (by decide) ?_
  refine lv_aload_n hx hb dX9_spans_4 rfl (lv_at hl 0 rfl) ?_
  refine z_fini (w' := fun (u4 : Unit) => [(am 0, .inr (9, mf0 am))]) (va_runV (As := []) (rest := []) ⟨hx, hb, hml, hown, hts⟩ (c_X9_areBoth_197 l dC dI cB cI cJ cZ cP cQ am H.size) (cwV 0 hts gX9_spans_X9_areBoth rfl rfl rfl (by decide +kernel) ⟨Nat.le_of_ble_eq_true rfl, Nat.le_of_ble_eq_true rfl⟩) (z_pV (ci := 9) hK hP hD zX_nil [0] (by decide) rfl rfl 0 rfl) rfl rfl hl.1 rfl (lv_room (Nat.le_of_ble_eq_true rfl)) dX9_spans_5 ⟨Nat.le_of_ble_eq_true rfl, Nat.le_of_ble_eq_true rfl⟩) hP hD hS hA [0] [] [0] rfl rfl (by decide) (by decide) (fun _ => rfl) (by decide) (fun r5 u4 H locs hp6 hP hD hS => ?_)
  have hP : va_P (dC, dI) vwCl [(am 0, .inr (9, mf0 am))] H := hP
  have hD : va_D A [(am 0, .inr (9, mf0 am))] := hD
  refine W.widen (k := 0) (n := 0) (by decide) (by decide) ?_
  obtain rfl : r5 = 0 := hp6
  refine lv_if_eq (tgt := 21) hx hb dX9_spans_8 (by decide) (fun _ => ?_) (fun c => absurd (by decide) c)
  refine lv_iconst (v := 0) hx hb dX9_spans_21 (by decide) ?_
  exact z_zret () hx hb hr hlocks hK hP hD hS hAe hQ rfl rfl (by decide) dX9_spans_22
set_option maxHeartbeats 4000000 in
set_option maxRecDepth 100000 in
theorem c_X9_span_215 (l : Launch) (dC : Nat → ClassId) (dI : Nat → Nat → Nat) (cB cI cJ cZ cP cQ : ClassId) (am : Nat → Nat) (sz : Nat) (p1 : Int32) (p2 : Int32) (p3 : Int32) : Met l yX9_span wsX9_span ({ frames := 3, cells := 0, slots := 0, locals := 66 } : Room) (zPc [.ref (am 0), .int p1, .int p2, .int p3] (dC, dI) (zT cB cI cJ cZ cP cQ) [(am 0, .inr (9, mf0 am)), (am 25, .inl (cI, 5, .inl (fun _ => 0)))] sz [] []) (va_Qi (fun r _ => (fun r => (r = (-2000000000) ∧ p1.toInt < 1) ∨ (r = (-2000000000) ∧ 1 ≤ p1.toInt ∧ 4094 < p1.toInt) ∨ (r = (-2000000000) ∧ 1 ≤ p1.toInt ∧ p1.toInt ≤ 4094 ∧ p2.toInt < 1) ∨ (r = (-2000000000) ∧ 1 ≤ p1.toInt ∧ p1.toInt ≤ 4094 ∧ 1 ≤ p2.toInt ∧ 10 < p2.toInt) ∨ (r = (-2000000000) ∧ 1 ≤ p1.toInt ∧ p1.toInt ≤ 4094 ∧ 1 ≤ p2.toInt ∧ p2.toInt ≤ 10 ∧ p3.toInt < 0) ∨ (r = (-2000000000) ∧ 1 ≤ p1.toInt ∧ p1.toInt ≤ 4094 ∧ 1 ≤ p2.toInt ∧ p2.toInt ≤ 10 ∧ 0 ≤ p3.toInt ∧ 3 < p3.toInt) ∨ (r = (-2000000000) ∧ 1 ≤ p1.toInt ∧ p1.toInt ≤ 4094 ∧ 1 ≤ p2.toInt ∧ p2.toInt ≤ 10 ∧ 0 ≤ p3.toInt ∧ p3.toInt ≤ 3)) r) (zB (dC, dI) (zT cB cI cJ cZ cP cQ) (fun _ : Unit => []) [(am 0, .inr (9, mf0 am)), (am 25, .inl (cI, 5, .inl (fun _ => 0)))] sz) (va_A [(am 0, .inr (9, mf0 am)), (am 25, .inl (cI, 5, .inl (fun _ => 0)))] sz)) 0 0 (va_A [(am 0, .inr (9, mf0 am)), (am 25, .inl (cI, 5, .inl (fun _ => 0)))] sz) := by
  refine z_enter (cc := cX9_span) (maxL := 4) (ret := (some .int)) (by decide) rfl (Nat.le_of_ble_eq_true rfl) ?_
  intro p e s m below meth c A ls Q H locs hx hb hr hml hown hts hlocks hin hK hP hD hA hX hS hAe hQ hl
  have hown : s.vm.findClass RX9 = some m.cls := hown
  have hi9 : ∀ w ∈ wsX90, w ∈ wsX9_span := fun w h => List.mem_cons_of_mem _ (List.mem_append_right _ h)
  have hk0 := hts (.fieldLink RX9 125 "MonthPushModel" "thrown" "I") (by decide +kernel)
  have hk1 := hts (.constant RX9 369 (-2000000000)) (by decide +kernel)
  have hk2 := hts (.constantLong RX9 128 3) (by decide +kernel)
  have hl : lv_has ls 4 [(0, .ref (am 0)), (1, .int p1), (2, .int p2), (3, .int p3)] := hl
  refine lv_aload_n hx hb dX9_span_0 rfl (lv_at hl 0 rfl) ?_
  refine lv_iconst (v := 0) hx hb dX9_span_1 (by decide) ?_
  refine z_put0 (D := (dC, dI)) (ci := 9) (v := .int 0) (ty := .int) (C := RX9) (T := TX9) (N := 60) hx hb hts hi9 tyX9 tyX9_ok nmX9 hown hK hP hD hS 0 rfl rfl 0 (by decide) hk0 (fun _ h9 => h9) rfl (by decide +kernel) rfl rfl rfl dX9_span_2 (fun H locs hP hS => ?_)
  refine lv_iload_n hx hb dX9_span_5 rfl (lv_at hl 1 rfl) ?_
  refine lv_iload_n hx hb dX9_span_6 rfl (lv_at hl 2 rfl) ?_
  refine z_fini (w' := fun (u1 : Unit) => [(am 0, .inr (9, mf0 am)), (am 25, .inl (cI, 5, .inl (fun _ => 0)))]) (va_runS (As := [.int p1, .int p2]) (rest := []) ⟨hx, hb, hml, hown, hts⟩ (c_X9_isSpan_214 l dC dI cB cI cJ cZ cP cQ H.size p1 p2) (va_cwS 2 hts gX9_span_X9_isSpan rfl rfl rfl (by decide +kernel) ⟨Nat.le_of_ble_eq_true rfl, Nat.le_of_ble_eq_true rfl⟩) (z_pS hK hP hD zX_nil [] (by decide) rfl) rfl rfl hl.1 rfl (lv_room (Nat.le_of_ble_eq_true rfl)) dX9_span_7 ⟨Nat.le_of_ble_eq_true rfl, Nat.le_of_ble_eq_true rfl⟩) hP hD hS hA [] [0, 1] [0, 1] rfl rfl (by decide) (by decide) (fun _ => rfl) (by decide) (fun r2 u1 H locs hp3 hP hD hS => ?_)
  have hP : va_P (dC, dI) vwCl [(am 0, .inr (9, mf0 am)), (am 25, .inl (cI, 5, .inl (fun _ => 0)))] H := hP
  have hD : va_D A [(am 0, .inr (9, mf0 am)), (am 25, .inl (cI, 5, .inl (fun _ => 0)))] := hD
  refine W.widen (k := 0) (n := 0) (by decide) (by decide) ?_
  rcases hp3 with ⟨rfl, f4⟩ | ⟨rfl, f5, f6⟩ | ⟨rfl, f7, f8, f9⟩ | ⟨rfl, f10, f11, f12, f13⟩ | ⟨rfl, f14, f15, f16, f17⟩
  · refine lv_if_eq (tgt := 25) hx hb dX9_span_10 (by decide) (fun _ => ?_) (fun c => absurd (by decide) c)
    refine lv_ldcw hx hb hown hk1 dX9_span_25 ?_
    have hP9 := hP.sub (ws' := []) [] rfl
    have hD9 := hD.sub (ws' := []) [] (by decide) rfl
    exact z_iret () hx hb hr hlocks hK hP9 hD9 hS hAe hQ rfl (Or.inl (⟨rfl, f4⟩)) dX9_span_28
  · refine lv_if_eq (tgt := 25) hx hb dX9_span_10 (by decide) (fun _ => ?_) (fun c => absurd (by decide) c)
    refine lv_ldcw hx hb hown hk1 dX9_span_25 ?_
    have hP9 := hP.sub (ws' := []) [] rfl
    have hD9 := hD.sub (ws' := []) [] (by decide) rfl
    exact z_iret () hx hb hr hlocks hK hP9 hD9 hS hAe hQ rfl (Or.inr (Or.inl ⟨rfl, f5, f6⟩)) dX9_span_28
  · refine lv_if_eq (tgt := 25) hx hb dX9_span_10 (by decide) (fun _ => ?_) (fun c => absurd (by decide) c)
    refine lv_ldcw hx hb hown hk1 dX9_span_25 ?_
    have hP9 := hP.sub (ws' := []) [] rfl
    have hD9 := hD.sub (ws' := []) [] (by decide) rfl
    exact z_iret () hx hb hr hlocks hK hP9 hD9 hS hAe hQ rfl (Or.inr (Or.inr (Or.inl ⟨rfl, f7, f8, f9⟩))) dX9_span_28
  · refine lv_if_eq (tgt := 25) hx hb dX9_span_10 (by decide) (fun _ => ?_) (fun c => absurd (by decide) c)
    refine lv_ldcw hx hb hown hk1 dX9_span_25 ?_
    have hP9 := hP.sub (ws' := []) [] rfl
    have hD9 := hD.sub (ws' := []) [] (by decide) rfl
    exact z_iret () hx hb hr hlocks hK hP9 hD9 hS hAe hQ rfl (Or.inr (Or.inr (Or.inr (Or.inl ⟨rfl, f10, f11, f12, f13⟩)))) dX9_span_28
  · refine lv_if_eq (tgt := 25) hx hb dX9_span_10 (by decide) (fun c => absurd c (by decide)) (fun _ => ?_)
    refine lv_iload_n hx hb dX9_span_13 rfl (lv_at hl 3 rfl) ?_
    refine lv_i2l hx hb dX9_span_14 rfl ?_
    refine lv_lconst (v := 0) hx hb dX9_span_15 (by decide) ?_
    refine lv_ldc2 hx hb hown hk2 dX9_span_16 ?_
    refine z_fini (w' := fun (u18 : Unit) => [(am 0, .inr (9, mf0 am)), (am 25, .inl (cI, 5, .inl (fun _ => 0)))]) (va_runS (As := [.long p3.toInt64, .long 0, .long 3]) (rest := []) ⟨hx, hb, hml, hown, hts⟩ (c_X9_in_142 l dC dI cB cI cJ cZ cP cQ H.size p3) (va_cwS 3 hts gX9_span_X9_in rfl rfl rfl (by decide +kernel) ⟨Nat.le_of_ble_eq_true rfl, Nat.le_of_ble_eq_true rfl⟩) (z_pS hK hP hD zX_nil [] (by decide) rfl) rfl rfl hl.1 rfl (lv_room (Nat.le_of_ble_eq_true rfl)) dX9_span_19 ⟨Nat.le_of_ble_eq_true rfl, Nat.le_of_ble_eq_true rfl⟩) hP hD hS hA [] [0, 1] [0, 1] rfl rfl (by decide) (by decide) (fun _ => rfl) (by decide) (fun r19 u18 H locs hp20 hP hD hS => ?_)
    have hP : va_P (dC, dI) vwCl [(am 0, .inr (9, mf0 am)), (am 25, .inl (cI, 5, .inl (fun _ => 0)))] H := hP
    have hD : va_D A [(am 0, .inr (9, mf0 am)), (am 25, .inl (cI, 5, .inl (fun _ => 0)))] := hD
    refine W.widen (k := 0) (n := 0) (by decide) (by decide) ?_
    rcases hp20 with ⟨rfl, f21⟩ | ⟨rfl, f22, f23⟩ | ⟨rfl, f24, f25⟩
    · refine lv_if_ne (tgt := 29) hx hb dX9_span_22 (by decide) (fun c => absurd (by decide) c) (fun _ => ?_)
      refine lv_ldcw hx hb hown hk1 dX9_span_25 ?_
      have hP9 := hP.sub (ws' := []) [] rfl
      have hD9 := hD.sub (ws' := []) [] (by decide) rfl
      exact z_iret () hx hb hr hlocks hK hP9 hD9 hS hAe hQ rfl (Or.inr (Or.inr (Or.inr (Or.inr (Or.inl ⟨rfl, f14, f15, f16, f17, f21⟩))))) dX9_span_28
    · refine lv_if_ne (tgt := 29) hx hb dX9_span_22 (by decide) (fun c => absurd (by decide) c) (fun _ => ?_)
      refine lv_ldcw hx hb hown hk1 dX9_span_25 ?_
      have hP9 := hP.sub (ws' := []) [] rfl
      have hD9 := hD.sub (ws' := []) [] (by decide) rfl
      exact z_iret () hx hb hr hlocks hK hP9 hD9 hS hAe hQ rfl (Or.inr (Or.inr (Or.inr (Or.inr (Or.inr (Or.inl ⟨rfl, f14, f15, f16, f17, f22, f23⟩)))))) dX9_span_28
    · refine lv_if_ne (tgt := 29) hx hb dX9_span_22 (by decide) (fun _ => ?_) (fun c => absurd c (by decide))
      refine lv_aload_n hx hb dX9_span_29 rfl (lv_at hl 0 rfl) ?_
      refine lv_iload_n hx hb dX9_span_30 rfl (lv_at hl 1 rfl) ?_
      refine z_finv (w' := fun (u26 : Unit) => [(am 0, .inr (9, mf0 am)), (am 25, .inl (cI, 5, .inl (fun _ => 0)))]) (va_runV (As := [.int p1]) (rest := []) ⟨hx, hb, hml, hown, hts⟩ (c_X9_pushes_195 l dC dI cB cI cJ cZ cP cQ am H.size p1) (cwV 1 hts gX9_span_X9_pushes rfl rfl rfl (by decide +kernel) ⟨Nat.le_of_ble_eq_true rfl, Nat.le_of_ble_eq_true rfl⟩) (z_pV (ci := 9) hK hP hD zX_nil [0, 1] (by decide) rfl rfl 0 rfl) rfl rfl hl.1 rfl (lv_room (Nat.le_of_ble_eq_true rfl)) dX9_span_31 ⟨Nat.le_of_ble_eq_true rfl, Nat.le_of_ble_eq_true rfl⟩) hP hD hS hA [0, 1] [] [0, 1] rfl rfl (by decide) (by decide) (fun _ => rfl) (by decide) (fun u26 H locs hp28 hP hD hS => ?_)
      have hP : va_P (dC, dI) vwCl [(am 0, .inr (9, mf0 am)), (am 25, .inl (cI, 5, .inl (fun _ => 0)))] H := hP
      have hD : va_D A [(am 0, .inr (9, mf0 am)), (am 25, .inl (cI, 5, .inl (fun _ => 0)))] := hD
      refine W.widen (k := 0) (n := 0) (by decide) (by decide) ?_
      refine lv_aload_n hx hb dX9_span_34 rfl (lv_at hl 0 rfl) ?_
      refine lv_iload_n hx hb dX9_span_35 rfl (lv_at hl 2 rfl) ?_
      refine z_fini (w' := fun (u29 : Unit) => [(am 0, .inr (9, mf0 am)), (am 25, .inl (cI, 5, .inl (fun _ => 0)))]) (va_runV (As := [.int p2]) (rest := []) ⟨hx, hb, hml, hown, hts⟩ (c_X9_spans_215 l dC dI cB cI cJ cZ cP cQ am H.size p2) (cwV 1 hts gX9_span_X9_spans rfl rfl rfl (by decide +kernel) ⟨Nat.le_of_ble_eq_true rfl, Nat.le_of_ble_eq_true rfl⟩) (z_pV (ci := 9) hK hP hD zX_nil [0] (by decide) rfl rfl 0 rfl) rfl rfl hl.1 rfl (lv_room (Nat.le_of_ble_eq_true rfl)) dX9_span_36 ⟨Nat.le_of_ble_eq_true rfl, Nat.le_of_ble_eq_true rfl⟩) hP hD hS hA [0] [1] [1, 0] rfl rfl (by decide) (by decide) (fun _ => rfl) (by decide) (fun r30 u29 H locs hp31 hP hD hS => ?_)
      have hP : va_P (dC, dI) vwCl [(am 0, .inr (9, mf0 am)), (am 25, .inl (cI, 5, .inl (fun _ => 0)))] H := hP
      have hD : va_D A [(am 0, .inr (9, mf0 am)), (am 25, .inl (cI, 5, .inl (fun _ => 0)))] := hD
      refine W.widen (k := 0) (n := 0) (by decide) (by decide) ?_
      obtain rfl : r30 = 0 := hp31
      refine lv_if_eq (tgt := 50) hx hb dX9_span_39 (by decide) (fun _ => ?_) (fun c => absurd (by decide) c)
      refine lv_ldcw hx hb hown hk1 dX9_span_50 ?_
      have hP9 := hP.sub (ws' := []) [] rfl
      have hD9 := hD.sub (ws' := []) [] (by decide) rfl
      exact z_iret () hx hb hr hlocks hK hP9 hD9 hS hAe hQ rfl (Or.inr (Or.inr (Or.inr (Or.inr (Or.inr (Or.inr ⟨rfl, f14, f15, f16, f17, f24, f25⟩)))))) dX9_span_53
set_option maxHeartbeats 4000000 in
set_option maxRecDepth 100000 in
theorem c_X9_usuals_217 (l : Launch) (dC : Nat → ClassId) (dI : Nat → Nat → Nat) (cB cI cJ cZ cP cQ : ClassId) (am : Nat → Nat) (sz : Nat) (p1 : Int32) : Met l yX9_usuals wsX9_usuals ({ frames := 2, cells := 0, slots := 0, locals := 41 } : Room) (zPc [.ref (am 0), .int p1] (dC, dI) (zT cB cI cJ cZ cP cQ) [(am 0, .inr (9, mf0 am))] sz [] []) (va_Qi (fun r _ => (fun r => r = 0) r) (zB (dC, dI) (zT cB cI cJ cZ cP cQ) (fun _ : Unit => [(am 0, .inr (9, mf0 am))]) [(am 0, .inr (9, mf0 am))] sz) (va_A [(am 0, .inr (9, mf0 am))] sz)) 0 0 (va_A [(am 0, .inr (9, mf0 am))] sz) := by
  refine z_enter (cc := cX9_usuals) (maxL := 7) (ret := (some .boolean)) (by decide) rfl (Nat.le_of_ble_eq_true rfl) ?_
  intro p e s m below meth c A ls Q H locs hx hb hr hml hown hts hlocks hin hK hP hD hA hX hS hAe hQ hl
  have hown : s.vm.findClass RX9 = some m.cls := hown
  have hi9 : ∀ w ∈ wsX90, w ∈ wsX9_usuals := fun w h => List.mem_cons_of_mem _ (List.mem_append_right _ h)
  have hk0 := hts (.fieldLink RX9 402 "MonthPushModel" "isTold" "Z") (by decide +kernel)
  have hl : lv_has ls 7 [(0, .ref (am 0)), (1, .int p1)] := hl
  refine lv_aload_n hx hb dX9_usuals_0 rfl (lv_at hl 0 rfl) ?_
  refine z_finl (w' := fun (u1 : Unit) => [(am 0, .inr (9, mf0 am))]) (va_runV (As := []) (rest := []) ⟨hx, hb, hml, hown, hts⟩ (c_X9_byMoved_197 l dC dI cB cI cJ cZ cP cQ am H.size) (cwV 0 hts gX9_usuals_X9_byMoved rfl rfl rfl (by decide +kernel) ⟨Nat.le_of_ble_eq_true rfl, Nat.le_of_ble_eq_true rfl⟩) (z_pV (ci := 9) hK hP hD zX_nil [0] (by decide) rfl rfl 0 rfl) rfl rfl hl.1 rfl (lv_room (Nat.le_of_ble_eq_true rfl)) dX9_usuals_1 ⟨Nat.le_of_ble_eq_true rfl, Nat.le_of_ble_eq_true rfl⟩) hP hD hS hA [0] [] [0] rfl rfl (by decide) (by decide) (fun _ => rfl) (by decide) (fun r2 u1 H locs hp3 hP hD hS => ?_)
  have hP : va_P (dC, dI) vwCl [(am 0, .inr (9, mf0 am))] H := hP
  have hD : va_D A [(am 0, .inr (9, mf0 am))] := hD
  refine W.widen (k := 0) (n := 0) (by decide) (by decide) ?_
  obtain rfl : r2 = (-2000000000) := hp3
  refine lv_lstore_n (lv' := [(2, .long (-2000000000)), (0, .ref (am 0)), (1, .int p1)]) hx hb dX9_usuals_4 rfl hl (by decide) rfl (fun ls hl => ?_)
  refine lv_aload_n hx hb dX9_usuals_5 rfl (lv_at hl 1 rfl) ?_
  refine va_get (D := (dC, dI)) (ci := 9) (v := .int 0) (C := RX9) (T := TX9) (N := 60) hx hb hts hi9 hown hK hP 0 rfl rfl 53 (by decide) hk0 (fun _ h9 => h9) rfl dX9_usuals_6 ?_
  refine lv_if_eq (tgt := 39) hx hb dX9_usuals_9 (by decide) (fun _ => ?_) (fun c => absurd (by decide) c)
  refine lv_iconst (v := 0) hx hb dX9_usuals_39 (by decide) ?_
  exact z_zret () hx hb hr hlocks hK hP hD hS hAe hQ rfl rfl (by decide) dX9_usuals_40
set_option maxHeartbeats 4000000 in
set_option maxRecDepth 100000 in
theorem c_X9_usual_217 (l : Launch) (dC : Nat → ClassId) (dI : Nat → Nat → Nat) (cB cI cJ cZ cP cQ : ClassId) (am : Nat → Nat) (sz : Nat) (p1 : Int32) (p2 : Int32) (p3 : Int32) : Met l yX9_usual wsX9_usual ({ frames := 3, cells := 0, slots := 0, locals := 67 } : Room) (zPc [.ref (am 0), .int p1, .int p2, .int p3] (dC, dI) (zT cB cI cJ cZ cP cQ) [(am 0, .inr (9, mf0 am)), (am 25, .inl (cI, 5, .inl (fun _ => 0)))] sz [] []) (va_Qi (fun r _ => (fun r => (r = (-2000000000) ∧ p1.toInt < 1) ∨ (r = (-2000000000) ∧ 1 ≤ p1.toInt ∧ 4094 < p1.toInt) ∨ (r = (-2000000000) ∧ 1 ≤ p1.toInt ∧ p1.toInt ≤ 4094 ∧ p2.toInt < 1) ∨ (r = (-2000000000) ∧ 1 ≤ p1.toInt ∧ p1.toInt ≤ 4094 ∧ 1 ≤ p2.toInt ∧ 10 < p2.toInt) ∨ (r = (-2000000000) ∧ 1 ≤ p1.toInt ∧ p1.toInt ≤ 4094 ∧ 1 ≤ p2.toInt ∧ p2.toInt ≤ 10 ∧ p3.toInt < 0) ∨ (r = (-2000000000) ∧ 1 ≤ p1.toInt ∧ p1.toInt ≤ 4094 ∧ 1 ≤ p2.toInt ∧ p2.toInt ≤ 10 ∧ 0 ≤ p3.toInt ∧ 3 < p3.toInt) ∨ (r = (-2000000000) ∧ 1 ≤ p1.toInt ∧ p1.toInt ≤ 4094 ∧ 1 ≤ p2.toInt ∧ p2.toInt ≤ 10 ∧ 0 ≤ p3.toInt ∧ p3.toInt ≤ 3)) r) (zB (dC, dI) (zT cB cI cJ cZ cP cQ) (fun _ : Unit => []) [(am 0, .inr (9, mf0 am)), (am 25, .inl (cI, 5, .inl (fun _ => 0)))] sz) (va_A [(am 0, .inr (9, mf0 am)), (am 25, .inl (cI, 5, .inl (fun _ => 0)))] sz)) 0 0 (va_A [(am 0, .inr (9, mf0 am)), (am 25, .inl (cI, 5, .inl (fun _ => 0)))] sz) := by
  refine z_enter (cc := cX9_usual) (maxL := 4) (ret := (some .int)) (by decide) rfl (Nat.le_of_ble_eq_true rfl) ?_
  intro p e s m below meth c A ls Q H locs hx hb hr hml hown hts hlocks hin hK hP hD hA hX hS hAe hQ hl
  have hown : s.vm.findClass RX9 = some m.cls := hown
  have hi9 : ∀ w ∈ wsX90, w ∈ wsX9_usual := fun w h => List.mem_cons_of_mem _ (List.mem_append_right _ h)
  have hk0 := hts (.fieldLink RX9 125 "MonthPushModel" "thrown" "I") (by decide +kernel)
  have hk1 := hts (.constant RX9 369 (-2000000000)) (by decide +kernel)
  have hk2 := hts (.constantLong RX9 128 3) (by decide +kernel)
  have hl : lv_has ls 4 [(0, .ref (am 0)), (1, .int p1), (2, .int p2), (3, .int p3)] := hl
  refine lv_aload_n hx hb dX9_usual_0 rfl (lv_at hl 0 rfl) ?_
  refine lv_iconst (v := 0) hx hb dX9_usual_1 (by decide) ?_
  refine z_put0 (D := (dC, dI)) (ci := 9) (v := .int 0) (ty := .int) (C := RX9) (T := TX9) (N := 60) hx hb hts hi9 tyX9 tyX9_ok nmX9 hown hK hP hD hS 0 rfl rfl 0 (by decide) hk0 (fun _ h9 => h9) rfl (by decide +kernel) rfl rfl rfl dX9_usual_2 (fun H locs hP hS => ?_)
  refine lv_iload_n hx hb dX9_usual_5 rfl (lv_at hl 1 rfl) ?_
  refine lv_iload_n hx hb dX9_usual_6 rfl (lv_at hl 2 rfl) ?_
  refine z_fini (w' := fun (u1 : Unit) => [(am 0, .inr (9, mf0 am)), (am 25, .inl (cI, 5, .inl (fun _ => 0)))]) (va_runS (As := [.int p1, .int p2]) (rest := []) ⟨hx, hb, hml, hown, hts⟩ (c_X9_isSpan_214 l dC dI cB cI cJ cZ cP cQ H.size p1 p2) (va_cwS 2 hts gX9_usual_X9_isSpan rfl rfl rfl (by decide +kernel) ⟨Nat.le_of_ble_eq_true rfl, Nat.le_of_ble_eq_true rfl⟩) (z_pS hK hP hD zX_nil [] (by decide) rfl) rfl rfl hl.1 rfl (lv_room (Nat.le_of_ble_eq_true rfl)) dX9_usual_7 ⟨Nat.le_of_ble_eq_true rfl, Nat.le_of_ble_eq_true rfl⟩) hP hD hS hA [] [0, 1] [0, 1] rfl rfl (by decide) (by decide) (fun _ => rfl) (by decide) (fun r2 u1 H locs hp3 hP hD hS => ?_)
  have hP : va_P (dC, dI) vwCl [(am 0, .inr (9, mf0 am)), (am 25, .inl (cI, 5, .inl (fun _ => 0)))] H := hP
  have hD : va_D A [(am 0, .inr (9, mf0 am)), (am 25, .inl (cI, 5, .inl (fun _ => 0)))] := hD
  refine W.widen (k := 0) (n := 0) (by decide) (by decide) ?_
  rcases hp3 with ⟨rfl, f4⟩ | ⟨rfl, f5, f6⟩ | ⟨rfl, f7, f8, f9⟩ | ⟨rfl, f10, f11, f12, f13⟩ | ⟨rfl, f14, f15, f16, f17⟩
  · refine lv_if_eq (tgt := 25) hx hb dX9_usual_10 (by decide) (fun _ => ?_) (fun c => absurd (by decide) c)
    refine lv_ldcw hx hb hown hk1 dX9_usual_25 ?_
    have hP9 := hP.sub (ws' := []) [] rfl
    have hD9 := hD.sub (ws' := []) [] (by decide) rfl
    exact z_iret () hx hb hr hlocks hK hP9 hD9 hS hAe hQ rfl (Or.inl (⟨rfl, f4⟩)) dX9_usual_28
  · refine lv_if_eq (tgt := 25) hx hb dX9_usual_10 (by decide) (fun _ => ?_) (fun c => absurd (by decide) c)
    refine lv_ldcw hx hb hown hk1 dX9_usual_25 ?_
    have hP9 := hP.sub (ws' := []) [] rfl
    have hD9 := hD.sub (ws' := []) [] (by decide) rfl
    exact z_iret () hx hb hr hlocks hK hP9 hD9 hS hAe hQ rfl (Or.inr (Or.inl ⟨rfl, f5, f6⟩)) dX9_usual_28
  · refine lv_if_eq (tgt := 25) hx hb dX9_usual_10 (by decide) (fun _ => ?_) (fun c => absurd (by decide) c)
    refine lv_ldcw hx hb hown hk1 dX9_usual_25 ?_
    have hP9 := hP.sub (ws' := []) [] rfl
    have hD9 := hD.sub (ws' := []) [] (by decide) rfl
    exact z_iret () hx hb hr hlocks hK hP9 hD9 hS hAe hQ rfl (Or.inr (Or.inr (Or.inl ⟨rfl, f7, f8, f9⟩))) dX9_usual_28
  · refine lv_if_eq (tgt := 25) hx hb dX9_usual_10 (by decide) (fun _ => ?_) (fun c => absurd (by decide) c)
    refine lv_ldcw hx hb hown hk1 dX9_usual_25 ?_
    have hP9 := hP.sub (ws' := []) [] rfl
    have hD9 := hD.sub (ws' := []) [] (by decide) rfl
    exact z_iret () hx hb hr hlocks hK hP9 hD9 hS hAe hQ rfl (Or.inr (Or.inr (Or.inr (Or.inl ⟨rfl, f10, f11, f12, f13⟩)))) dX9_usual_28
  · refine lv_if_eq (tgt := 25) hx hb dX9_usual_10 (by decide) (fun c => absurd c (by decide)) (fun _ => ?_)
    refine lv_iload_n hx hb dX9_usual_13 rfl (lv_at hl 3 rfl) ?_
    refine lv_i2l hx hb dX9_usual_14 rfl ?_
    refine lv_lconst (v := 0) hx hb dX9_usual_15 (by decide) ?_
    refine lv_ldc2 hx hb hown hk2 dX9_usual_16 ?_
    refine z_fini (w' := fun (u18 : Unit) => [(am 0, .inr (9, mf0 am)), (am 25, .inl (cI, 5, .inl (fun _ => 0)))]) (va_runS (As := [.long p3.toInt64, .long 0, .long 3]) (rest := []) ⟨hx, hb, hml, hown, hts⟩ (c_X9_in_142 l dC dI cB cI cJ cZ cP cQ H.size p3) (va_cwS 3 hts gX9_usual_X9_in rfl rfl rfl (by decide +kernel) ⟨Nat.le_of_ble_eq_true rfl, Nat.le_of_ble_eq_true rfl⟩) (z_pS hK hP hD zX_nil [] (by decide) rfl) rfl rfl hl.1 rfl (lv_room (Nat.le_of_ble_eq_true rfl)) dX9_usual_19 ⟨Nat.le_of_ble_eq_true rfl, Nat.le_of_ble_eq_true rfl⟩) hP hD hS hA [] [0, 1] [0, 1] rfl rfl (by decide) (by decide) (fun _ => rfl) (by decide) (fun r19 u18 H locs hp20 hP hD hS => ?_)
    have hP : va_P (dC, dI) vwCl [(am 0, .inr (9, mf0 am)), (am 25, .inl (cI, 5, .inl (fun _ => 0)))] H := hP
    have hD : va_D A [(am 0, .inr (9, mf0 am)), (am 25, .inl (cI, 5, .inl (fun _ => 0)))] := hD
    refine W.widen (k := 0) (n := 0) (by decide) (by decide) ?_
    rcases hp20 with ⟨rfl, f21⟩ | ⟨rfl, f22, f23⟩ | ⟨rfl, f24, f25⟩
    · refine lv_if_ne (tgt := 29) hx hb dX9_usual_22 (by decide) (fun c => absurd (by decide) c) (fun _ => ?_)
      refine lv_ldcw hx hb hown hk1 dX9_usual_25 ?_
      have hP9 := hP.sub (ws' := []) [] rfl
      have hD9 := hD.sub (ws' := []) [] (by decide) rfl
      exact z_iret () hx hb hr hlocks hK hP9 hD9 hS hAe hQ rfl (Or.inr (Or.inr (Or.inr (Or.inr (Or.inl ⟨rfl, f14, f15, f16, f17, f21⟩))))) dX9_usual_28
    · refine lv_if_ne (tgt := 29) hx hb dX9_usual_22 (by decide) (fun c => absurd (by decide) c) (fun _ => ?_)
      refine lv_ldcw hx hb hown hk1 dX9_usual_25 ?_
      have hP9 := hP.sub (ws' := []) [] rfl
      have hD9 := hD.sub (ws' := []) [] (by decide) rfl
      exact z_iret () hx hb hr hlocks hK hP9 hD9 hS hAe hQ rfl (Or.inr (Or.inr (Or.inr (Or.inr (Or.inr (Or.inl ⟨rfl, f14, f15, f16, f17, f22, f23⟩)))))) dX9_usual_28
    · refine lv_if_ne (tgt := 29) hx hb dX9_usual_22 (by decide) (fun _ => ?_) (fun c => absurd c (by decide))
      refine lv_aload_n hx hb dX9_usual_29 rfl (lv_at hl 0 rfl) ?_
      refine lv_iload_n hx hb dX9_usual_30 rfl (lv_at hl 1 rfl) ?_
      refine z_finv (w' := fun (u26 : Unit) => [(am 0, .inr (9, mf0 am)), (am 25, .inl (cI, 5, .inl (fun _ => 0)))]) (va_runV (As := [.int p1]) (rest := []) ⟨hx, hb, hml, hown, hts⟩ (c_X9_pushes_195 l dC dI cB cI cJ cZ cP cQ am H.size p1) (cwV 1 hts gX9_usual_X9_pushes rfl rfl rfl (by decide +kernel) ⟨Nat.le_of_ble_eq_true rfl, Nat.le_of_ble_eq_true rfl⟩) (z_pV (ci := 9) hK hP hD zX_nil [0, 1] (by decide) rfl rfl 0 rfl) rfl rfl hl.1 rfl (lv_room (Nat.le_of_ble_eq_true rfl)) dX9_usual_31 ⟨Nat.le_of_ble_eq_true rfl, Nat.le_of_ble_eq_true rfl⟩) hP hD hS hA [0, 1] [] [0, 1] rfl rfl (by decide) (by decide) (fun _ => rfl) (by decide) (fun u26 H locs hp28 hP hD hS => ?_)
      have hP : va_P (dC, dI) vwCl [(am 0, .inr (9, mf0 am)), (am 25, .inl (cI, 5, .inl (fun _ => 0)))] H := hP
      have hD : va_D A [(am 0, .inr (9, mf0 am)), (am 25, .inl (cI, 5, .inl (fun _ => 0)))] := hD
      refine W.widen (k := 0) (n := 0) (by decide) (by decide) ?_
      refine lv_aload_n hx hb dX9_usual_34 rfl (lv_at hl 0 rfl) ?_
      refine lv_iload_n hx hb dX9_usual_35 rfl (lv_at hl 2 rfl) ?_
      refine z_fini (w' := fun (u29 : Unit) => [(am 0, .inr (9, mf0 am)), (am 25, .inl (cI, 5, .inl (fun _ => 0)))]) (va_runV (As := [.int p2]) (rest := []) ⟨hx, hb, hml, hown, hts⟩ (c_X9_usuals_217 l dC dI cB cI cJ cZ cP cQ am H.size p2) (cwV 1 hts gX9_usual_X9_usuals rfl rfl rfl (by decide +kernel) ⟨Nat.le_of_ble_eq_true rfl, Nat.le_of_ble_eq_true rfl⟩) (z_pV (ci := 9) hK hP hD zX_nil [0] (by decide) rfl rfl 0 rfl) rfl rfl hl.1 rfl (lv_room (Nat.le_of_ble_eq_true rfl)) dX9_usual_36 ⟨Nat.le_of_ble_eq_true rfl, Nat.le_of_ble_eq_true rfl⟩) hP hD hS hA [0] [1] [1, 0] rfl rfl (by decide) (by decide) (fun _ => rfl) (by decide) (fun r30 u29 H locs hp31 hP hD hS => ?_)
      have hP : va_P (dC, dI) vwCl [(am 0, .inr (9, mf0 am)), (am 25, .inl (cI, 5, .inl (fun _ => 0)))] H := hP
      have hD : va_D A [(am 0, .inr (9, mf0 am)), (am 25, .inl (cI, 5, .inl (fun _ => 0)))] := hD
      refine W.widen (k := 0) (n := 0) (by decide) (by decide) ?_
      obtain rfl : r30 = 0 := hp31
      refine lv_if_eq (tgt := 50) hx hb dX9_usual_39 (by decide) (fun _ => ?_) (fun c => absurd (by decide) c)
      refine lv_ldcw hx hb hown hk1 dX9_usual_50 ?_
      have hP9 := hP.sub (ws' := []) [] rfl
      have hD9 := hD.sub (ws' := []) [] (by decide) rfl
      exact z_iret () hx hb hr hlocks hK hP9 hD9 hS hAe hQ rfl (Or.inr (Or.inr (Or.inr (Or.inr (Or.inr (Or.inr ⟨rfl, f14, f15, f16, f17, f24, f25⟩)))))) dX9_usual_53
set_option maxHeartbeats 4000000 in
set_option maxRecDepth 100000 in
theorem c_X9_in_219 (l : Launch) (dC : Nat → ClassId) (dI : Nat → Nat → Nat) (cB cI cJ cZ cP cQ : ClassId) (sz : Nat) (p0 : Int32) : Met l yX9_in wsX9_in ({ frames := 0, cells := 0, slots := 0, locals := 0 } : Room) (zPc [.long p0.toInt64, .long (-99), .long 99] (dC, dI) (zT cB cI cJ cZ cP cQ) [] sz [] []) (va_Qi (fun r _ => (fun r => (r = 0 ∧ p0.toInt < (-99)) ∨ (r = 0 ∧ (-99) ≤ p0.toInt ∧ 99 < p0.toInt) ∨ (r = 1 ∧ (-99) ≤ p0.toInt ∧ p0.toInt ≤ 99)) r) (zB (dC, dI) (zT cB cI cJ cZ cP cQ) (fun _ : Unit => []) [] sz) (va_A [] sz)) 0 0 (va_A [] sz) := by
  refine z_enter (cc := cX9_in) (maxL := 6) (ret := (some .boolean)) (by decide) rfl (Nat.le_of_ble_eq_true rfl) ?_
  intro p e s m below meth c A ls Q H locs hx hb hr hml hown hts hlocks hin hK hP hD hA hX hS hAe hQ hl
  have hown : s.vm.findClass RX9 = some m.cls := hown
  have hl : lv_has ls 6 [(0, .long p0.toInt64), (2, .long (-99)), (4, .long 99)] := hl
  refine lv_lload_n hx hb dX9_in_0 rfl (lv_at hl 0 rfl) ?_
  refine lv_lload_n hx hb dX9_in_1 rfl (lv_at hl 1 rfl) ?_
  refine W.lcmp hx hb dX9_in_2 ?_
  refine lv_if_lt (tgt := 17) hx hb dX9_in_3 (by decide) (fun c_1 => ?_) (fun c_1 => ?_)
  · have f2 : p0.toInt < (-99) := z_llt (z_i2l p0) (by decide) c_1
    refine lv_iconst (v := 0) hx hb dX9_in_17 (by decide) ?_
    exact z_zret () hx hb hr hlocks hK hP hD hS hAe hQ rfl (Or.inl (⟨rfl, f2⟩)) (by decide) dX9_in_18
  · have f2 : (-99) ≤ p0.toInt := z_lnlt (z_i2l p0) (by decide) c_1
    refine lv_lload_n hx hb dX9_in_6 rfl (lv_at hl 0 rfl) ?_
    refine lv_lload hx hb dX9_in_7 (lv_at hl 2 rfl) ?_
    refine W.lcmp hx hb dX9_in_9 ?_
    refine lv_if_gt (tgt := 17) hx hb dX9_in_10 (by decide) (fun c_3 => ?_) (fun c_3 => ?_)
    · have f4 : 99 < p0.toInt := z_lgt (z_i2l p0) (by decide) c_3
      refine lv_iconst (v := 0) hx hb dX9_in_17 (by decide) ?_
      exact z_zret () hx hb hr hlocks hK hP hD hS hAe hQ rfl (Or.inr (Or.inl ⟨rfl, f2, f4⟩)) (by decide) dX9_in_18
    · have f4 : p0.toInt ≤ 99 := z_lngt (z_i2l p0) (by decide) c_3
      refine lv_iconst (v := 1) hx hb dX9_in_13 (by decide) ?_
      refine lv_goto (tgt := 18) hx hb dX9_in_14 (by decide) ?_
      exact z_zret () hx hb hr hlocks hK hP hD hS hAe hQ rfl (Or.inr (Or.inr ⟨rfl, f2, f4⟩)) (by decide) dX9_in_18
set_option maxHeartbeats 4000000 in
set_option maxRecDepth 100000 in
theorem c_X9_kept_219 (l : Launch) (dC : Nat → ClassId) (dI : Nat → Nat → Nat) (cB cI cJ cZ cP cQ : ClassId) (am : Nat → Nat) (sz : Nat) (p1 : Int32) (p2 : Int32) (p3 : Int32) : Met l yX9_kept wsX9_kept ({ frames := 3, cells := 0, slots := 0, locals := 66 } : Room) (zPc [.ref (am 0), .int p1, .int p2, .int p3] (dC, dI) (zT cB cI cJ cZ cP cQ) [(am 0, .inr (9, mf0 am)), (am 25, .inl (cI, 5, .inl (fun _ => 0)))] sz [] []) (va_Qi (fun r _ => (fun r => (r = (-2) ∧ p1.toInt < 1) ∨ (r = (-2) ∧ 1 ≤ p1.toInt ∧ 4094 < p1.toInt) ∨ (r = (-2) ∧ 1 ≤ p1.toInt ∧ p1.toInt ≤ 4094 ∧ p2.toInt < 1) ∨ (r = (-2) ∧ 1 ≤ p1.toInt ∧ p1.toInt ≤ 4094 ∧ 1 ≤ p2.toInt ∧ 10 < p2.toInt) ∨ (r = (-2) ∧ 1 ≤ p1.toInt ∧ p1.toInt ≤ 4094 ∧ 1 ≤ p2.toInt ∧ p2.toInt ≤ 10 ∧ p3.toInt < (-99)) ∨ (r = (-2) ∧ 1 ≤ p1.toInt ∧ p1.toInt ≤ 4094 ∧ 1 ≤ p2.toInt ∧ p2.toInt ≤ 10 ∧ (-99) ≤ p3.toInt ∧ 99 < p3.toInt) ∨ (r = (-2) ∧ 1 ≤ p1.toInt ∧ p1.toInt ≤ 4094 ∧ 1 ≤ p2.toInt ∧ p2.toInt ≤ 10 ∧ (-99) ≤ p3.toInt ∧ p3.toInt ≤ 99)) r) (zB (dC, dI) (zT cB cI cJ cZ cP cQ) (fun _ : Unit => []) [(am 0, .inr (9, mf0 am)), (am 25, .inl (cI, 5, .inl (fun _ => 0)))] sz) (va_A [(am 0, .inr (9, mf0 am)), (am 25, .inl (cI, 5, .inl (fun _ => 0)))] sz)) 0 0 (va_A [(am 0, .inr (9, mf0 am)), (am 25, .inl (cI, 5, .inl (fun _ => 0)))] sz) := by
  refine z_enter (cc := cX9_kept) (maxL := 4) (ret := (some .int)) (by decide) rfl (Nat.le_of_ble_eq_true rfl) ?_
  intro p e s m below meth c A ls Q H locs hx hb hr hml hown hts hlocks hin hK hP hD hA hX hS hAe hQ hl
  have hown : s.vm.findClass RX9 = some m.cls := hown
  have hi9 : ∀ w ∈ wsX90, w ∈ wsX9_kept := fun w h => List.mem_cons_of_mem _ (List.mem_append_right _ h)
  have hk0 := hts (.fieldLink RX9 125 "MonthPushModel" "thrown" "I") (by decide +kernel)
  have hk1 := hts (.constantLong RX9 475 (-99)) (by decide +kernel)
  have hk2 := hts (.constantLong RX9 477 99) (by decide +kernel)
  have hl : lv_has ls 4 [(0, .ref (am 0)), (1, .int p1), (2, .int p2), (3, .int p3)] := hl
  refine lv_aload_n hx hb dX9_kept_0 rfl (lv_at hl 0 rfl) ?_
  refine lv_iconst (v := 0) hx hb dX9_kept_1 (by decide) ?_
  refine z_put0 (D := (dC, dI)) (ci := 9) (v := .int 0) (ty := .int) (C := RX9) (T := TX9) (N := 60) hx hb hts hi9 tyX9 tyX9_ok nmX9 hown hK hP hD hS 0 rfl rfl 0 (by decide) hk0 (fun _ h9 => h9) rfl (by decide +kernel) rfl rfl rfl dX9_kept_2 (fun H locs hP hS => ?_)
  refine lv_iload_n hx hb dX9_kept_5 rfl (lv_at hl 1 rfl) ?_
  refine lv_iload_n hx hb dX9_kept_6 rfl (lv_at hl 2 rfl) ?_
  refine z_fini (w' := fun (u1 : Unit) => [(am 0, .inr (9, mf0 am)), (am 25, .inl (cI, 5, .inl (fun _ => 0)))]) (va_runS (As := [.int p1, .int p2]) (rest := []) ⟨hx, hb, hml, hown, hts⟩ (c_X9_isSpan_214 l dC dI cB cI cJ cZ cP cQ H.size p1 p2) (va_cwS 2 hts gX9_kept_X9_isSpan rfl rfl rfl (by decide +kernel) ⟨Nat.le_of_ble_eq_true rfl, Nat.le_of_ble_eq_true rfl⟩) (z_pS hK hP hD zX_nil [] (by decide) rfl) rfl rfl hl.1 rfl (lv_room (Nat.le_of_ble_eq_true rfl)) dX9_kept_7 ⟨Nat.le_of_ble_eq_true rfl, Nat.le_of_ble_eq_true rfl⟩) hP hD hS hA [] [0, 1] [0, 1] rfl rfl (by decide) (by decide) (fun _ => rfl) (by decide) (fun r2 u1 H locs hp3 hP hD hS => ?_)
  have hP : va_P (dC, dI) vwCl [(am 0, .inr (9, mf0 am)), (am 25, .inl (cI, 5, .inl (fun _ => 0)))] H := hP
  have hD : va_D A [(am 0, .inr (9, mf0 am)), (am 25, .inl (cI, 5, .inl (fun _ => 0)))] := hD
  refine W.widen (k := 0) (n := 0) (by decide) (by decide) ?_
  rcases hp3 with ⟨rfl, f4⟩ | ⟨rfl, f5, f6⟩ | ⟨rfl, f7, f8, f9⟩ | ⟨rfl, f10, f11, f12, f13⟩ | ⟨rfl, f14, f15, f16, f17⟩
  · refine lv_if_eq (tgt := 27) hx hb dX9_kept_10 (by decide) (fun _ => ?_) (fun c => absurd (by decide) c)
    refine lv_bipush (v := (-2)) hx hb dX9_kept_27 (by decide) ?_
    have hP9 := hP.sub (ws' := []) [] rfl
    have hD9 := hD.sub (ws' := []) [] (by decide) rfl
    exact z_iret () hx hb hr hlocks hK hP9 hD9 hS hAe hQ rfl (Or.inl (⟨rfl, f4⟩)) dX9_kept_29
  · refine lv_if_eq (tgt := 27) hx hb dX9_kept_10 (by decide) (fun _ => ?_) (fun c => absurd (by decide) c)
    refine lv_bipush (v := (-2)) hx hb dX9_kept_27 (by decide) ?_
    have hP9 := hP.sub (ws' := []) [] rfl
    have hD9 := hD.sub (ws' := []) [] (by decide) rfl
    exact z_iret () hx hb hr hlocks hK hP9 hD9 hS hAe hQ rfl (Or.inr (Or.inl ⟨rfl, f5, f6⟩)) dX9_kept_29
  · refine lv_if_eq (tgt := 27) hx hb dX9_kept_10 (by decide) (fun _ => ?_) (fun c => absurd (by decide) c)
    refine lv_bipush (v := (-2)) hx hb dX9_kept_27 (by decide) ?_
    have hP9 := hP.sub (ws' := []) [] rfl
    have hD9 := hD.sub (ws' := []) [] (by decide) rfl
    exact z_iret () hx hb hr hlocks hK hP9 hD9 hS hAe hQ rfl (Or.inr (Or.inr (Or.inl ⟨rfl, f7, f8, f9⟩))) dX9_kept_29
  · refine lv_if_eq (tgt := 27) hx hb dX9_kept_10 (by decide) (fun _ => ?_) (fun c => absurd (by decide) c)
    refine lv_bipush (v := (-2)) hx hb dX9_kept_27 (by decide) ?_
    have hP9 := hP.sub (ws' := []) [] rfl
    have hD9 := hD.sub (ws' := []) [] (by decide) rfl
    exact z_iret () hx hb hr hlocks hK hP9 hD9 hS hAe hQ rfl (Or.inr (Or.inr (Or.inr (Or.inl ⟨rfl, f10, f11, f12, f13⟩)))) dX9_kept_29
  · refine lv_if_eq (tgt := 27) hx hb dX9_kept_10 (by decide) (fun c => absurd c (by decide)) (fun _ => ?_)
    refine lv_iload_n hx hb dX9_kept_13 rfl (lv_at hl 3 rfl) ?_
    refine lv_i2l hx hb dX9_kept_14 rfl ?_
    refine lv_ldc2 hx hb hown hk1 dX9_kept_15 ?_
    refine lv_ldc2 hx hb hown hk2 dX9_kept_18 ?_
    refine z_fini (w' := fun (u18 : Unit) => [(am 0, .inr (9, mf0 am)), (am 25, .inl (cI, 5, .inl (fun _ => 0)))]) (va_runS (As := [.long p3.toInt64, .long (-99), .long 99]) (rest := []) ⟨hx, hb, hml, hown, hts⟩ (c_X9_in_219 l dC dI cB cI cJ cZ cP cQ H.size p3) (va_cwS 3 hts gX9_kept_X9_in rfl rfl rfl (by decide +kernel) ⟨Nat.le_of_ble_eq_true rfl, Nat.le_of_ble_eq_true rfl⟩) (z_pS hK hP hD zX_nil [] (by decide) rfl) rfl rfl hl.1 rfl (lv_room (Nat.le_of_ble_eq_true rfl)) dX9_kept_21 ⟨Nat.le_of_ble_eq_true rfl, Nat.le_of_ble_eq_true rfl⟩) hP hD hS hA [] [0, 1] [0, 1] rfl rfl (by decide) (by decide) (fun _ => rfl) (by decide) (fun r19 u18 H locs hp20 hP hD hS => ?_)
    have hP : va_P (dC, dI) vwCl [(am 0, .inr (9, mf0 am)), (am 25, .inl (cI, 5, .inl (fun _ => 0)))] H := hP
    have hD : va_D A [(am 0, .inr (9, mf0 am)), (am 25, .inl (cI, 5, .inl (fun _ => 0)))] := hD
    refine W.widen (k := 0) (n := 0) (by decide) (by decide) ?_
    rcases hp20 with ⟨rfl, f21⟩ | ⟨rfl, f22, f23⟩ | ⟨rfl, f24, f25⟩
    · refine lv_if_ne (tgt := 30) hx hb dX9_kept_24 (by decide) (fun c => absurd (by decide) c) (fun _ => ?_)
      refine lv_bipush (v := (-2)) hx hb dX9_kept_27 (by decide) ?_
      have hP9 := hP.sub (ws' := []) [] rfl
      have hD9 := hD.sub (ws' := []) [] (by decide) rfl
      exact z_iret () hx hb hr hlocks hK hP9 hD9 hS hAe hQ rfl (Or.inr (Or.inr (Or.inr (Or.inr (Or.inl ⟨rfl, f14, f15, f16, f17, f21⟩))))) dX9_kept_29
    · refine lv_if_ne (tgt := 30) hx hb dX9_kept_24 (by decide) (fun c => absurd (by decide) c) (fun _ => ?_)
      refine lv_bipush (v := (-2)) hx hb dX9_kept_27 (by decide) ?_
      have hP9 := hP.sub (ws' := []) [] rfl
      have hD9 := hD.sub (ws' := []) [] (by decide) rfl
      exact z_iret () hx hb hr hlocks hK hP9 hD9 hS hAe hQ rfl (Or.inr (Or.inr (Or.inr (Or.inr (Or.inr (Or.inl ⟨rfl, f14, f15, f16, f17, f22, f23⟩)))))) dX9_kept_29
    · refine lv_if_ne (tgt := 30) hx hb dX9_kept_24 (by decide) (fun _ => ?_) (fun c => absurd c (by decide))
      refine lv_aload_n hx hb dX9_kept_30 rfl (lv_at hl 0 rfl) ?_
      refine lv_iload_n hx hb dX9_kept_31 rfl (lv_at hl 1 rfl) ?_
      refine z_finv (w' := fun (u26 : Unit) => [(am 0, .inr (9, mf0 am)), (am 25, .inl (cI, 5, .inl (fun _ => 0)))]) (va_runV (As := [.int p1]) (rest := []) ⟨hx, hb, hml, hown, hts⟩ (c_X9_pushes_195 l dC dI cB cI cJ cZ cP cQ am H.size p1) (cwV 1 hts gX9_kept_X9_pushes rfl rfl rfl (by decide +kernel) ⟨Nat.le_of_ble_eq_true rfl, Nat.le_of_ble_eq_true rfl⟩) (z_pV (ci := 9) hK hP hD zX_nil [0, 1] (by decide) rfl rfl 0 rfl) rfl rfl hl.1 rfl (lv_room (Nat.le_of_ble_eq_true rfl)) dX9_kept_32 ⟨Nat.le_of_ble_eq_true rfl, Nat.le_of_ble_eq_true rfl⟩) hP hD hS hA [0, 1] [] [0, 1] rfl rfl (by decide) (by decide) (fun _ => rfl) (by decide) (fun u26 H locs hp28 hP hD hS => ?_)
      have hP : va_P (dC, dI) vwCl [(am 0, .inr (9, mf0 am)), (am 25, .inl (cI, 5, .inl (fun _ => 0)))] H := hP
      have hD : va_D A [(am 0, .inr (9, mf0 am)), (am 25, .inl (cI, 5, .inl (fun _ => 0)))] := hD
      refine W.widen (k := 0) (n := 0) (by decide) (by decide) ?_
      refine lv_aload_n hx hb dX9_kept_35 rfl (lv_at hl 0 rfl) ?_
      refine lv_iload_n hx hb dX9_kept_36 rfl (lv_at hl 2 rfl) ?_
      refine z_fini (w' := fun (u29 : Unit) => [(am 0, .inr (9, mf0 am)), (am 25, .inl (cI, 5, .inl (fun _ => 0)))]) (va_runV (As := [.int p2]) (rest := []) ⟨hx, hb, hml, hown, hts⟩ (c_X9_spans_215 l dC dI cB cI cJ cZ cP cQ am H.size p2) (cwV 1 hts gX9_kept_X9_spans rfl rfl rfl (by decide +kernel) ⟨Nat.le_of_ble_eq_true rfl, Nat.le_of_ble_eq_true rfl⟩) (z_pV (ci := 9) hK hP hD zX_nil [0] (by decide) rfl rfl 0 rfl) rfl rfl hl.1 rfl (lv_room (Nat.le_of_ble_eq_true rfl)) dX9_kept_37 ⟨Nat.le_of_ble_eq_true rfl, Nat.le_of_ble_eq_true rfl⟩) hP hD hS hA [0] [1] [1, 0] rfl rfl (by decide) (by decide) (fun _ => rfl) (by decide) (fun r30 u29 H locs hp31 hP hD hS => ?_)
      have hP : va_P (dC, dI) vwCl [(am 0, .inr (9, mf0 am)), (am 25, .inl (cI, 5, .inl (fun _ => 0)))] H := hP
      have hD : va_D A [(am 0, .inr (9, mf0 am)), (am 25, .inl (cI, 5, .inl (fun _ => 0)))] := hD
      refine W.widen (k := 0) (n := 0) (by decide) (by decide) ?_
      obtain rfl : r30 = 0 := hp31
      refine lv_if_ne (tgt := 48) hx hb dX9_kept_40 (by decide) (fun c => absurd (by decide) c) (fun _ => ?_)
      refine lv_bipush (v := (-2)) hx hb dX9_kept_43 (by decide) ?_
      refine lv_goto (tgt := 65) hx hb dX9_kept_45 (by decide) ?_
      have hP9 := hP.sub (ws' := []) [] rfl
      have hD9 := hD.sub (ws' := []) [] (by decide) rfl
      exact z_iret () hx hb hr hlocks hK hP9 hD9 hS hAe hQ rfl (Or.inr (Or.inr (Or.inr (Or.inr (Or.inr (Or.inr ⟨rfl, f14, f15, f16, f17, f24, f25⟩)))))) dX9_kept_65
set_option maxHeartbeats 4000000 in
set_option maxRecDepth 100000 in
theorem c_X9_in_221 (l : Launch) (dC : Nat → ClassId) (dI : Nat → Nat → Nat) (cB cI cJ cZ cP cQ : ClassId) (sz : Nat) (p0 : Int32) : Met l yX9_in wsX9_in ({ frames := 0, cells := 0, slots := 0, locals := 0 } : Room) (zPc [.long p0.toInt64, .long 1, .long 40] (dC, dI) (zT cB cI cJ cZ cP cQ) [] sz [] []) (va_Qi (fun r _ => (fun r => (r = 0 ∧ p0.toInt < 1) ∨ (r = 0 ∧ 1 ≤ p0.toInt ∧ 40 < p0.toInt) ∨ (r = 1 ∧ 1 ≤ p0.toInt ∧ p0.toInt ≤ 40)) r) (zB (dC, dI) (zT cB cI cJ cZ cP cQ) (fun _ : Unit => []) [] sz) (va_A [] sz)) 0 0 (va_A [] sz) := by
  refine z_enter (cc := cX9_in) (maxL := 6) (ret := (some .boolean)) (by decide) rfl (Nat.le_of_ble_eq_true rfl) ?_
  intro p e s m below meth c A ls Q H locs hx hb hr hml hown hts hlocks hin hK hP hD hA hX hS hAe hQ hl
  have hown : s.vm.findClass RX9 = some m.cls := hown
  have hl : lv_has ls 6 [(0, .long p0.toInt64), (2, .long 1), (4, .long 40)] := hl
  refine lv_lload_n hx hb dX9_in_0 rfl (lv_at hl 0 rfl) ?_
  refine lv_lload_n hx hb dX9_in_1 rfl (lv_at hl 1 rfl) ?_
  refine W.lcmp hx hb dX9_in_2 ?_
  refine lv_if_lt (tgt := 17) hx hb dX9_in_3 (by decide) (fun c_1 => ?_) (fun c_1 => ?_)
  · have f2 : p0.toInt < 1 := z_llt (z_i2l p0) (by decide) c_1
    refine lv_iconst (v := 0) hx hb dX9_in_17 (by decide) ?_
    exact z_zret () hx hb hr hlocks hK hP hD hS hAe hQ rfl (Or.inl (⟨rfl, f2⟩)) (by decide) dX9_in_18
  · have f2 : 1 ≤ p0.toInt := z_lnlt (z_i2l p0) (by decide) c_1
    refine lv_lload_n hx hb dX9_in_6 rfl (lv_at hl 0 rfl) ?_
    refine lv_lload hx hb dX9_in_7 (lv_at hl 2 rfl) ?_
    refine W.lcmp hx hb dX9_in_9 ?_
    refine lv_if_gt (tgt := 17) hx hb dX9_in_10 (by decide) (fun c_3 => ?_) (fun c_3 => ?_)
    · have f4 : 40 < p0.toInt := z_lgt (z_i2l p0) (by decide) c_3
      refine lv_iconst (v := 0) hx hb dX9_in_17 (by decide) ?_
      exact z_zret () hx hb hr hlocks hK hP hD hS hAe hQ rfl (Or.inr (Or.inl ⟨rfl, f2, f4⟩)) (by decide) dX9_in_18
    · have f4 : p0.toInt ≤ 40 := z_lngt (z_i2l p0) (by decide) c_3
      refine lv_iconst (v := 1) hx hb dX9_in_13 (by decide) ?_
      refine lv_goto (tgt := 18) hx hb dX9_in_14 (by decide) ?_
      exact z_zret () hx hb hr hlocks hK hP hD hS hAe hQ rfl (Or.inr (Or.inr ⟨rfl, f2, f4⟩)) (by decide) dX9_in_18
set_option maxHeartbeats 4000000 in
set_option maxRecDepth 100000 in
theorem c_X9_in_222 (l : Launch) (dC : Nat → ClassId) (dI : Nat → Nat → Nat) (cB cI cJ cZ cP cQ : ClassId) (sz : Nat) (p0 : Int32) : Met l yX9_in wsX9_in ({ frames := 0, cells := 0, slots := 0, locals := 0 } : Room) (zPc [.long p0.toInt64, .long 0, .long 2] (dC, dI) (zT cB cI cJ cZ cP cQ) [] sz [] []) (va_Qi (fun r _ => (fun r => (r = 0 ∧ p0.toInt < 0) ∨ (r = 0 ∧ 0 ≤ p0.toInt ∧ 2 < p0.toInt) ∨ (r = 1 ∧ 0 ≤ p0.toInt ∧ p0.toInt ≤ 2)) r) (zB (dC, dI) (zT cB cI cJ cZ cP cQ) (fun _ : Unit => []) [] sz) (va_A [] sz)) 0 0 (va_A [] sz) := by
  refine z_enter (cc := cX9_in) (maxL := 6) (ret := (some .boolean)) (by decide) rfl (Nat.le_of_ble_eq_true rfl) ?_
  intro p e s m below meth c A ls Q H locs hx hb hr hml hown hts hlocks hin hK hP hD hA hX hS hAe hQ hl
  have hown : s.vm.findClass RX9 = some m.cls := hown
  have hl : lv_has ls 6 [(0, .long p0.toInt64), (2, .long 0), (4, .long 2)] := hl
  refine lv_lload_n hx hb dX9_in_0 rfl (lv_at hl 0 rfl) ?_
  refine lv_lload_n hx hb dX9_in_1 rfl (lv_at hl 1 rfl) ?_
  refine W.lcmp hx hb dX9_in_2 ?_
  refine lv_if_lt (tgt := 17) hx hb dX9_in_3 (by decide) (fun c_1 => ?_) (fun c_1 => ?_)
  · have f2 : p0.toInt < 0 := z_llt (z_i2l p0) (by decide) c_1
    refine lv_iconst (v := 0) hx hb dX9_in_17 (by decide) ?_
    exact z_zret () hx hb hr hlocks hK hP hD hS hAe hQ rfl (Or.inl (⟨rfl, f2⟩)) (by decide) dX9_in_18
  · have f2 : 0 ≤ p0.toInt := z_lnlt (z_i2l p0) (by decide) c_1
    refine lv_lload_n hx hb dX9_in_6 rfl (lv_at hl 0 rfl) ?_
    refine lv_lload hx hb dX9_in_7 (lv_at hl 2 rfl) ?_
    refine W.lcmp hx hb dX9_in_9 ?_
    refine lv_if_gt (tgt := 17) hx hb dX9_in_10 (by decide) (fun c_3 => ?_) (fun c_3 => ?_)
    · have f4 : 2 < p0.toInt := z_lgt (z_i2l p0) (by decide) c_3
      refine lv_iconst (v := 0) hx hb dX9_in_17 (by decide) ?_
      exact z_zret () hx hb hr hlocks hK hP hD hS hAe hQ rfl (Or.inr (Or.inl ⟨rfl, f2, f4⟩)) (by decide) dX9_in_18
    · have f4 : p0.toInt ≤ 2 := z_lngt (z_i2l p0) (by decide) c_3
      refine lv_iconst (v := 1) hx hb dX9_in_13 (by decide) ?_
      refine lv_goto (tgt := 18) hx hb dX9_in_14 (by decide) ?_
      exact z_zret () hx hb hr hlocks hK hP hD hS hAe hQ rfl (Or.inr (Or.inr ⟨rfl, f2, f4⟩)) (by decide) dX9_in_18
set_option maxHeartbeats 4000000 in
set_option maxRecDepth 100000 in
theorem c_X9_gathers_224 (l : Launch) (dC : Nat → ClassId) (dI : Nat → Nat → Nat) (cB cI cJ cZ cP cQ : ClassId) (am : Nat → Nat) (sz : Nat) (w_w_p1 : Int32) : Met l yX9_gathers wsX9_gathers ({ frames := 0, cells := 0, slots := 0, locals := 0 } : Room) (zPc [.ref (am 0)] (dC, dI) (zT cB cI cJ cZ cP cQ) [(am 0, .inr (9, ((mf0 am).set 42 (.long w_w_p1.toInt64))))] sz [] []) (va_Qv (fun _ => True) (zB (dC, dI) (zT cB cI cJ cZ cP cQ) (fun _ : Unit => [(am 0, .inr (9, ((mf0 am).set 42 (.long w_w_p1.toInt64))))]) [(am 0, .inr (9, ((mf0 am).set 42 (.long w_w_p1.toInt64))))] sz) (va_A [(am 0, .inr (9, ((mf0 am).set 42 (.long w_w_p1.toInt64))))] sz)) 0 0 (va_A [(am 0, .inr (9, ((mf0 am).set 42 (.long w_w_p1.toInt64))))] sz) := by
  refine z_enter (cc := cX9_gathers) (maxL := 2) (ret := none) (by decide) rfl (Nat.le_of_ble_eq_true rfl) ?_
  intro p e s m below meth c A ls Q H locs hx hb hr hml hown hts hlocks hin hK hP hD hA hX hS hAe hQ hl
  have hown : s.vm.findClass RX9 = some m.cls := hown
  have hi9 : ∀ w ∈ wsX90, w ∈ wsX9_gathers := fun w h => List.mem_cons_of_mem _ (List.mem_append_right _ h)
  have hk0 := hts (.fieldLink RX9 378 "MonthPushModel" "n" "J") (by decide +kernel)
  have hk1 := hts (.fieldLink RX9 381 "MonthPushModel" "m" "J") (by decide +kernel)
  have hk2 := hts (.fieldLink RX9 384 "MonthPushModel" "s" "J") (by decide +kernel)
  have hk3 := hts (.fieldLink RX9 387 "MonthPushModel" "t" "J") (by decide +kernel)
  have hk4 := hts (.fieldLink RX9 390 "MonthPushModel" "w" "J") (by decide +kernel)
  have hk5 := hts (.fieldLink RX9 393 "MonthPushModel" "v" "J") (by decide +kernel)
  have hk6 := hts (.fieldLink RX9 396 "MonthPushModel" "square" "J") (by decide +kernel)
  have hk7 := hts (.fieldLink RX9 399 "MonthPushModel" "both" "J") (by decide +kernel)
  have hk8 := hts (.fieldLink RX9 375 "MonthPushModel" "upTo" "I") (by decide +kernel)
  have hl : lv_has ls 2 [(0, .ref (am 0))] := hl
  refine lv_aload_n hx hb dX9_gathers_0 rfl (lv_at hl 0 rfl) ?_
  refine lv_lconst (v := 0) hx hb dX9_gathers_1 (by decide) ?_
  refine z_put0 (D := (dC, dI)) (ci := 9) (v := .long 0) (ty := .long) (C := RX9) (T := TX9) (N := 60) hx hb hts hi9 tyX9 tyX9_ok nmX9 hown hK hP hD hS 0 rfl rfl 44 (by decide) hk0 (fun _ h9 => h9) rfl (by decide +kernel) rfl rfl rfl dX9_gathers_2 (fun H locs hP hS => ?_)
  refine lv_aload_n hx hb dX9_gathers_5 rfl (lv_at hl 0 rfl) ?_
  refine lv_lconst (v := 0) hx hb dX9_gathers_6 (by decide) ?_
  refine z_put0 (D := (dC, dI)) (ci := 9) (v := .long 0) (ty := .long) (C := RX9) (T := TX9) (N := 60) hx hb hts hi9 tyX9 tyX9_ok nmX9 hown hK hP hD hS 0 rfl rfl 45 (by decide) hk1 (fun _ h9 => h9) rfl (by decide +kernel) rfl rfl rfl dX9_gathers_7 (fun H locs hP hS => ?_)
  refine lv_aload_n hx hb dX9_gathers_10 rfl (lv_at hl 0 rfl) ?_
  refine lv_lconst (v := 0) hx hb dX9_gathers_11 (by decide) ?_
  refine z_put0 (D := (dC, dI)) (ci := 9) (v := .long 0) (ty := .long) (C := RX9) (T := TX9) (N := 60) hx hb hts hi9 tyX9 tyX9_ok nmX9 hown hK hP hD hS 0 rfl rfl 46 (by decide) hk2 (fun _ h9 => h9) rfl (by decide +kernel) rfl rfl rfl dX9_gathers_12 (fun H locs hP hS => ?_)
  refine lv_aload_n hx hb dX9_gathers_15 rfl (lv_at hl 0 rfl) ?_
  refine lv_lconst (v := 0) hx hb dX9_gathers_16 (by decide) ?_
  refine z_put0 (D := (dC, dI)) (ci := 9) (v := .long 0) (ty := .long) (C := RX9) (T := TX9) (N := 60) hx hb hts hi9 tyX9 tyX9_ok nmX9 hown hK hP hD hS 0 rfl rfl 47 (by decide) hk3 (fun _ h9 => h9) rfl (by decide +kernel) rfl rfl rfl dX9_gathers_17 (fun H locs hP hS => ?_)
  refine lv_aload_n hx hb dX9_gathers_20 rfl (lv_at hl 0 rfl) ?_
  refine lv_lconst (v := 0) hx hb dX9_gathers_21 (by decide) ?_
  refine z_put0 (D := (dC, dI)) (ci := 9) (v := .long 0) (ty := .long) (C := RX9) (T := TX9) (N := 60) hx hb hts hi9 tyX9 tyX9_ok nmX9 hown hK hP hD hS 0 rfl rfl 48 (by decide) hk4 (fun _ h9 => h9) rfl (by decide +kernel) rfl rfl rfl dX9_gathers_22 (fun H locs hP hS => ?_)
  refine lv_aload_n hx hb dX9_gathers_25 rfl (lv_at hl 0 rfl) ?_
  refine lv_lconst (v := 0) hx hb dX9_gathers_26 (by decide) ?_
  refine z_put0 (D := (dC, dI)) (ci := 9) (v := .long 0) (ty := .long) (C := RX9) (T := TX9) (N := 60) hx hb hts hi9 tyX9 tyX9_ok nmX9 hown hK hP hD hS 0 rfl rfl 49 (by decide) hk5 (fun _ h9 => h9) rfl (by decide +kernel) rfl rfl rfl dX9_gathers_27 (fun H locs hP hS => ?_)
  refine lv_aload_n hx hb dX9_gathers_30 rfl (lv_at hl 0 rfl) ?_
  refine lv_lconst (v := 0) hx hb dX9_gathers_31 (by decide) ?_
  refine z_put0 (D := (dC, dI)) (ci := 9) (v := .long 0) (ty := .long) (C := RX9) (T := TX9) (N := 60) hx hb hts hi9 tyX9 tyX9_ok nmX9 hown hK hP hD hS 0 rfl rfl 50 (by decide) hk6 (fun _ h9 => h9) rfl (by decide +kernel) rfl rfl rfl dX9_gathers_32 (fun H locs hP hS => ?_)
  refine lv_aload_n hx hb dX9_gathers_35 rfl (lv_at hl 0 rfl) ?_
  refine lv_lconst (v := 0) hx hb dX9_gathers_36 (by decide) ?_
  refine z_put0 (D := (dC, dI)) (ci := 9) (v := .long 0) (ty := .long) (C := RX9) (T := TX9) (N := 60) hx hb hts hi9 tyX9 tyX9_ok nmX9 hown hK hP hD hS 0 rfl rfl 51 (by decide) hk7 (fun _ h9 => h9) rfl (by decide +kernel) rfl rfl rfl dX9_gathers_37 (fun H locs hP hS => ?_)
  refine lv_iconst (v := 0) hx hb dX9_gathers_40 (by decide) ?_
  refine lv_istore_n (lv' := [(1, .int 0), (0, .ref (am 0))]) hx hb dX9_gathers_41 rfl hl (by decide) rfl (fun ls hl => ?_)
  refine lv_iload_n hx hb dX9_gathers_42 rfl (lv_at hl 0 rfl) ?_
  refine lv_aload_n hx hb dX9_gathers_43 rfl (lv_at hl 1 rfl) ?_
  refine va_get (D := (dC, dI)) (ci := 9) (v := .int 0) (C := RX9) (T := TX9) (N := 60) hx hb hts hi9 hown hK hP 0 rfl rfl 43 (by decide) hk8 (fun _ h9 => h9) rfl dX9_gathers_44 ?_
  refine lv_icmp_ge (tgt := 200) hx hb dX9_gathers_47 (by decide) (fun _ => ?_) (fun c => absurd (by decide) c)
  exact z_vret () hx hb hr hlocks hK hP hD hS hAe hQ rfl trivial dX9_gathers_200
set_option maxHeartbeats 4000000 in
set_option maxRecDepth 100000 in
theorem c_X9_areBoth_225 (l : Launch) (dC : Nat → ClassId) (dI : Nat → Nat → Nat) (cB cI cJ cZ cP cQ : ClassId) (am : Nat → Nat) (sz : Nat) (w_w_p1 : Int32) : Met l yX9_areBoth wsX9_areBoth ({ frames := 0, cells := 0, slots := 0, locals := 0 } : Room) (zPc [.ref (am 0)] (dC, dI) (zT cB cI cJ cZ cP cQ) [(am 0, .inr (9, ((mf0 am).set 42 (.long w_w_p1.toInt64))))] sz [] []) (va_Qi (fun r _ => (fun r => r = 0) r) (zB (dC, dI) (zT cB cI cJ cZ cP cQ) (fun _ : Unit => [(am 0, .inr (9, ((mf0 am).set 42 (.long w_w_p1.toInt64))))]) [(am 0, .inr (9, ((mf0 am).set 42 (.long w_w_p1.toInt64))))] sz) (va_A [(am 0, .inr (9, ((mf0 am).set 42 (.long w_w_p1.toInt64))))] sz)) 0 0 (va_A [(am 0, .inr (9, ((mf0 am).set 42 (.long w_w_p1.toInt64))))] sz) := by
  refine z_enter (cc := cX9_areBoth) (maxL := 1) (ret := (some .boolean)) (by decide) rfl (Nat.le_of_ble_eq_true rfl) ?_
  intro p e s m below meth c A ls Q H locs hx hb hr hml hown hts hlocks hin hK hP hD hA hX hS hAe hQ hl
  have hown : s.vm.findClass RX9 = some m.cls := hown
  have hi9 : ∀ w ∈ wsX90, w ∈ wsX9_areBoth := fun w h => List.mem_cons_of_mem _ (List.mem_append_right _ h)
  have hk0 := hts (.fieldLink RX9 378 "MonthPushModel" "n" "J") (by decide +kernel)
  have hl : lv_has ls 1 [(0, .ref (am 0))] := hl
  refine lv_aload_n hx hb dX9_areBoth_0 rfl (lv_at hl 0 rfl) ?_
  refine va_get (D := (dC, dI)) (ci := 9) (v := .long 0) (C := RX9) (T := TX9) (N := 60) hx hb hts hi9 hown hK hP 0 rfl rfl 44 (by decide) hk0 (fun _ h9 => h9) rfl dX9_areBoth_1 ?_
  refine lv_lconst (v := 0) hx hb dX9_areBoth_4 (by decide) ?_
  refine W.lcmp hx hb dX9_areBoth_5 ?_
  refine z_topi (y := 0) (by decide +kernel) ?_
  refine lv_if_le (tgt := 22) hx hb dX9_areBoth_6 (by decide) (fun _ => ?_) (fun c => absurd (by decide) c)
  refine lv_iconst (v := 0) hx hb dX9_areBoth_22 (by decide) ?_
  exact z_zret () hx hb hr hlocks hK hP hD hS hAe hQ rfl rfl (by decide) dX9_areBoth_23
set_option maxHeartbeats 4000000 in
set_option maxRecDepth 100000 in
theorem c_X9_untold_226 (l : Launch) (dC : Nat → ClassId) (dI : Nat → Nat → Nat) (cB cI cJ cZ cP cQ : ClassId) (am : Nat → Nat) (sz : Nat) (w_w_p1 : Int32) : Met l yX9_untold wsX9_untold ({ frames := 0, cells := 0, slots := 0, locals := 0 } : Room) (zPc [.ref (am 0)] (dC, dI) (zT cB cI cJ cZ cP cQ) [(am 0, .inr (9, ((mf0 am).set 42 (.long w_w_p1.toInt64))))] sz [] []) (va_Ql (fun r _ => (fun r => r = (-2000000000)) r) (zB (dC, dI) (zT cB cI cJ cZ cP cQ) (fun _ : Unit => [(am 0, .inr (9, ((mf0 am).set 42 (.long w_w_p1.toInt64))))]) [(am 0, .inr (9, ((mf0 am).set 42 (.long w_w_p1.toInt64))))] sz) (va_A [(am 0, .inr (9, ((mf0 am).set 42 (.long w_w_p1.toInt64))))] sz)) 0 0 (va_A [(am 0, .inr (9, ((mf0 am).set 42 (.long w_w_p1.toInt64))))] sz) := by
  refine z_enter (cc := cX9_untold) (maxL := 1) (ret := (some .long)) (by decide) rfl (Nat.le_of_ble_eq_true rfl) ?_
  intro p e s m below meth c A ls Q H locs hx hb hr hml hown hts hlocks hin hK hP hD hA hX hS hAe hQ hl
  have hown : s.vm.findClass RX9 = some m.cls := hown
  have hi9 : ∀ w ∈ wsX90, w ∈ wsX9_untold := fun w h => List.mem_cons_of_mem _ (List.mem_append_right _ h)
  have hk0 := hts (.fieldLink RX9 402 "MonthPushModel" "isTold" "Z") (by decide +kernel)
  have hk1 := hts (.constantLong RX9 408 (-2000000000)) (by decide +kernel)
  have hl : lv_has ls 1 [(0, .ref (am 0))] := hl
  refine lv_aload_n hx hb dX9_untold_0 rfl (lv_at hl 0 rfl) ?_
  refine lv_iconst (v := 0) hx hb dX9_untold_1 (by decide) ?_
  refine z_put0 (D := (dC, dI)) (ci := 9) (v := .int 0) (ty := .boolean) (C := RX9) (T := TX9) (N := 60) hx hb hts hi9 tyX9 tyX9_ok nmX9 hown hK hP hD hS 0 rfl rfl 53 (by decide) hk0 (fun _ h9 => h9) rfl (by decide +kernel) rfl rfl rfl dX9_untold_2 (fun H locs hP hS => ?_)
  refine lv_ldc2 hx hb hown hk1 dX9_untold_5 ?_
  exact z_lret () hx hb hr hlocks hK hP hD hS hAe hQ rfl rfl dX9_untold_8
set_option maxHeartbeats 4000000 in
set_option maxRecDepth 100000 in
theorem c_X9_byMoved_226 (l : Launch) (dC : Nat → ClassId) (dI : Nat → Nat → Nat) (cB cI cJ cZ cP cQ : ClassId) (am : Nat → Nat) (sz : Nat) (w_p1 : Int32) : Met l yX9_byMoved wsX9_byMoved ({ frames := 1, cells := 0, slots := 0, locals := 21 } : Room) (zPc [.ref (am 0)] (dC, dI) (zT cB cI cJ cZ cP cQ) [(am 0, .inr (9, ((mf0 am).set 42 (.long w_p1.toInt64))))] sz [] []) (va_Ql (fun r _ => (fun r => r = (-2000000000)) r) (zB (dC, dI) (zT cB cI cJ cZ cP cQ) (fun _ : Unit => [(am 0, .inr (9, ((mf0 am).set 42 (.long w_p1.toInt64))))]) [(am 0, .inr (9, ((mf0 am).set 42 (.long w_p1.toInt64))))] sz) (va_A [(am 0, .inr (9, ((mf0 am).set 42 (.long w_p1.toInt64))))] sz)) 0 0 (va_A [(am 0, .inr (9, ((mf0 am).set 42 (.long w_p1.toInt64))))] sz) := by
  refine z_enter (cc := cX9_byMoved) (maxL := 1) (ret := (some .long)) (by decide) rfl (Nat.le_of_ble_eq_true rfl) ?_
  intro p e s m below meth c A ls Q H locs hx hb hr hml hown hts hlocks hin hK hP hD hA hX hS hAe hQ hl
  have hown : s.vm.findClass RX9 = some m.cls := hown
  have hl : lv_has ls 1 [(0, .ref (am 0))] := hl
  refine lv_aload_n hx hb dX9_byMoved_0 rfl (lv_at hl 0 rfl) ?_
  refine z_finv (w' := fun (u1 : Unit) => [(am 0, .inr (9, ((mf0 am).set 42 (.long w_p1.toInt64))))]) (va_runV (As := []) (rest := []) ⟨hx, hb, hml, hown, hts⟩ (c_X9_gathers_224 l dC dI cB cI cJ cZ cP cQ am H.size w_p1) (cwV 0 hts gX9_byMoved_X9_gathers rfl rfl rfl (by decide +kernel) ⟨Nat.le_of_ble_eq_true rfl, Nat.le_of_ble_eq_true rfl⟩) (z_pV (ci := 9) hK hP hD zX_nil [0] (by decide) rfl rfl 0 rfl) rfl rfl hl.1 rfl (lv_room (Nat.le_of_ble_eq_true rfl)) dX9_byMoved_1 ⟨Nat.le_of_ble_eq_true rfl, Nat.le_of_ble_eq_true rfl⟩) hP hD hS hA [0] [] [0] rfl rfl (by decide) (by decide) (fun _ => rfl) (by decide) (fun u1 H locs hp3 hP hD hS => ?_)
  have hP : va_P (dC, dI) vwCl [(am 0, .inr (9, ((mf0 am).set 42 (.long w_p1.toInt64))))] H := hP
  have hD : va_D A [(am 0, .inr (9, ((mf0 am).set 42 (.long w_p1.toInt64))))] := hD
  refine W.widen (k := 0) (n := 0) (by decide) (by decide) ?_
  refine lv_aload_n hx hb dX9_byMoved_4 rfl (lv_at hl 0 rfl) ?_
  refine z_fini (w' := fun (u4 : Unit) => [(am 0, .inr (9, ((mf0 am).set 42 (.long w_p1.toInt64))))]) (va_runV (As := []) (rest := []) ⟨hx, hb, hml, hown, hts⟩ (c_X9_areBoth_225 l dC dI cB cI cJ cZ cP cQ am H.size w_p1) (cwV 0 hts gX9_byMoved_X9_areBoth rfl rfl rfl (by decide +kernel) ⟨Nat.le_of_ble_eq_true rfl, Nat.le_of_ble_eq_true rfl⟩) (z_pV (ci := 9) hK hP hD zX_nil [0] (by decide) rfl rfl 0 rfl) rfl rfl hl.1 rfl (lv_room (Nat.le_of_ble_eq_true rfl)) dX9_byMoved_5 ⟨Nat.le_of_ble_eq_true rfl, Nat.le_of_ble_eq_true rfl⟩) hP hD hS hA [0] [] [0] rfl rfl (by decide) (by decide) (fun _ => rfl) (by decide) (fun r5 u4 H locs hp6 hP hD hS => ?_)
  have hP : va_P (dC, dI) vwCl [(am 0, .inr (9, ((mf0 am).set 42 (.long w_p1.toInt64))))] H := hP
  have hD : va_D A [(am 0, .inr (9, ((mf0 am).set 42 (.long w_p1.toInt64))))] := hD
  refine W.widen (k := 0) (n := 0) (by decide) (by decide) ?_
  obtain rfl : r5 = 0 := hp6
  refine lv_if_eq (tgt := 56) hx hb dX9_byMoved_8 (by decide) (fun _ => ?_) (fun c => absurd (by decide) c)
  refine lv_aload_n hx hb dX9_byMoved_56 rfl (lv_at hl 0 rfl) ?_
  refine z_finl (w' := fun (u7 : Unit) => [(am 0, .inr (9, ((mf0 am).set 42 (.long w_p1.toInt64))))]) (va_runV (As := []) (rest := []) ⟨hx, hb, hml, hown, hts⟩ (c_X9_untold_226 l dC dI cB cI cJ cZ cP cQ am H.size w_p1) (cwV 0 hts gX9_byMoved_X9_untold rfl rfl rfl (by decide +kernel) ⟨Nat.le_of_ble_eq_true rfl, Nat.le_of_ble_eq_true rfl⟩) (z_pV (ci := 9) hK hP hD zX_nil [0] (by decide) rfl rfl 0 rfl) rfl rfl hl.1 rfl (lv_room (Nat.le_of_ble_eq_true rfl)) dX9_byMoved_57 ⟨Nat.le_of_ble_eq_true rfl, Nat.le_of_ble_eq_true rfl⟩) hP hD hS hA [0] [] [0] rfl rfl (by decide) (by decide) (fun _ => rfl) (by decide) (fun r8 u7 H locs hp9 hP hD hS => ?_)
  have hP : va_P (dC, dI) vwCl [(am 0, .inr (9, ((mf0 am).set 42 (.long w_p1.toInt64))))] H := hP
  have hD : va_D A [(am 0, .inr (9, ((mf0 am).set 42 (.long w_p1.toInt64))))] := hD
  refine W.widen (k := 0) (n := 0) (by decide) (by decide) ?_
  obtain rfl : r8 = (-2000000000) := hp9
  exact z_lret () hx hb hr hlocks hK hP hD hS hAe hQ rfl rfl dX9_byMoved_60
set_option maxHeartbeats 4000000 in
set_option maxRecDepth 100000 in
theorem c_X9_gathers_229 (l : Launch) (dC : Nat → ClassId) (dI : Nat → Nat → Nat) (cB cI cJ cZ cP cQ : ClassId) (am : Nat → Nat) (sz : Nat) (w_w_w_p1 : Int32) : Met l yX9_gathers wsX9_gathers ({ frames := 0, cells := 0, slots := 0, locals := 0 } : Room) (zPc [.ref (am 0)] (dC, dI) (zT cB cI cJ cZ cP cQ) [(am 0, .inr (9, ((mf0 am).set 42 (.long w_w_w_p1.toInt64))))] sz [] []) (va_Qv (fun _ => True) (zB (dC, dI) (zT cB cI cJ cZ cP cQ) (fun _ : Unit => [(am 0, .inr (9, ((mf0 am).set 42 (.long w_w_w_p1.toInt64))))]) [(am 0, .inr (9, ((mf0 am).set 42 (.long w_w_w_p1.toInt64))))] sz) (va_A [(am 0, .inr (9, ((mf0 am).set 42 (.long w_w_w_p1.toInt64))))] sz)) 0 0 (va_A [(am 0, .inr (9, ((mf0 am).set 42 (.long w_w_w_p1.toInt64))))] sz) := by
  refine z_enter (cc := cX9_gathers) (maxL := 2) (ret := none) (by decide) rfl (Nat.le_of_ble_eq_true rfl) ?_
  intro p e s m below meth c A ls Q H locs hx hb hr hml hown hts hlocks hin hK hP hD hA hX hS hAe hQ hl
  have hown : s.vm.findClass RX9 = some m.cls := hown
  have hi9 : ∀ w ∈ wsX90, w ∈ wsX9_gathers := fun w h => List.mem_cons_of_mem _ (List.mem_append_right _ h)
  have hk0 := hts (.fieldLink RX9 378 "MonthPushModel" "n" "J") (by decide +kernel)
  have hk1 := hts (.fieldLink RX9 381 "MonthPushModel" "m" "J") (by decide +kernel)
  have hk2 := hts (.fieldLink RX9 384 "MonthPushModel" "s" "J") (by decide +kernel)
  have hk3 := hts (.fieldLink RX9 387 "MonthPushModel" "t" "J") (by decide +kernel)
  have hk4 := hts (.fieldLink RX9 390 "MonthPushModel" "w" "J") (by decide +kernel)
  have hk5 := hts (.fieldLink RX9 393 "MonthPushModel" "v" "J") (by decide +kernel)
  have hk6 := hts (.fieldLink RX9 396 "MonthPushModel" "square" "J") (by decide +kernel)
  have hk7 := hts (.fieldLink RX9 399 "MonthPushModel" "both" "J") (by decide +kernel)
  have hk8 := hts (.fieldLink RX9 375 "MonthPushModel" "upTo" "I") (by decide +kernel)
  have hl : lv_has ls 2 [(0, .ref (am 0))] := hl
  refine lv_aload_n hx hb dX9_gathers_0 rfl (lv_at hl 0 rfl) ?_
  refine lv_lconst (v := 0) hx hb dX9_gathers_1 (by decide) ?_
  refine z_put0 (D := (dC, dI)) (ci := 9) (v := .long 0) (ty := .long) (C := RX9) (T := TX9) (N := 60) hx hb hts hi9 tyX9 tyX9_ok nmX9 hown hK hP hD hS 0 rfl rfl 44 (by decide) hk0 (fun _ h9 => h9) rfl (by decide +kernel) rfl rfl rfl dX9_gathers_2 (fun H locs hP hS => ?_)
  refine lv_aload_n hx hb dX9_gathers_5 rfl (lv_at hl 0 rfl) ?_
  refine lv_lconst (v := 0) hx hb dX9_gathers_6 (by decide) ?_
  refine z_put0 (D := (dC, dI)) (ci := 9) (v := .long 0) (ty := .long) (C := RX9) (T := TX9) (N := 60) hx hb hts hi9 tyX9 tyX9_ok nmX9 hown hK hP hD hS 0 rfl rfl 45 (by decide) hk1 (fun _ h9 => h9) rfl (by decide +kernel) rfl rfl rfl dX9_gathers_7 (fun H locs hP hS => ?_)
  refine lv_aload_n hx hb dX9_gathers_10 rfl (lv_at hl 0 rfl) ?_
  refine lv_lconst (v := 0) hx hb dX9_gathers_11 (by decide) ?_
  refine z_put0 (D := (dC, dI)) (ci := 9) (v := .long 0) (ty := .long) (C := RX9) (T := TX9) (N := 60) hx hb hts hi9 tyX9 tyX9_ok nmX9 hown hK hP hD hS 0 rfl rfl 46 (by decide) hk2 (fun _ h9 => h9) rfl (by decide +kernel) rfl rfl rfl dX9_gathers_12 (fun H locs hP hS => ?_)
  refine lv_aload_n hx hb dX9_gathers_15 rfl (lv_at hl 0 rfl) ?_
  refine lv_lconst (v := 0) hx hb dX9_gathers_16 (by decide) ?_
  refine z_put0 (D := (dC, dI)) (ci := 9) (v := .long 0) (ty := .long) (C := RX9) (T := TX9) (N := 60) hx hb hts hi9 tyX9 tyX9_ok nmX9 hown hK hP hD hS 0 rfl rfl 47 (by decide) hk3 (fun _ h9 => h9) rfl (by decide +kernel) rfl rfl rfl dX9_gathers_17 (fun H locs hP hS => ?_)
  refine lv_aload_n hx hb dX9_gathers_20 rfl (lv_at hl 0 rfl) ?_
  refine lv_lconst (v := 0) hx hb dX9_gathers_21 (by decide) ?_
  refine z_put0 (D := (dC, dI)) (ci := 9) (v := .long 0) (ty := .long) (C := RX9) (T := TX9) (N := 60) hx hb hts hi9 tyX9 tyX9_ok nmX9 hown hK hP hD hS 0 rfl rfl 48 (by decide) hk4 (fun _ h9 => h9) rfl (by decide +kernel) rfl rfl rfl dX9_gathers_22 (fun H locs hP hS => ?_)
  refine lv_aload_n hx hb dX9_gathers_25 rfl (lv_at hl 0 rfl) ?_
  refine lv_lconst (v := 0) hx hb dX9_gathers_26 (by decide) ?_
  refine z_put0 (D := (dC, dI)) (ci := 9) (v := .long 0) (ty := .long) (C := RX9) (T := TX9) (N := 60) hx hb hts hi9 tyX9 tyX9_ok nmX9 hown hK hP hD hS 0 rfl rfl 49 (by decide) hk5 (fun _ h9 => h9) rfl (by decide +kernel) rfl rfl rfl dX9_gathers_27 (fun H locs hP hS => ?_)
  refine lv_aload_n hx hb dX9_gathers_30 rfl (lv_at hl 0 rfl) ?_
  refine lv_lconst (v := 0) hx hb dX9_gathers_31 (by decide) ?_
  refine z_put0 (D := (dC, dI)) (ci := 9) (v := .long 0) (ty := .long) (C := RX9) (T := TX9) (N := 60) hx hb hts hi9 tyX9 tyX9_ok nmX9 hown hK hP hD hS 0 rfl rfl 50 (by decide) hk6 (fun _ h9 => h9) rfl (by decide +kernel) rfl rfl rfl dX9_gathers_32 (fun H locs hP hS => ?_)
  refine lv_aload_n hx hb dX9_gathers_35 rfl (lv_at hl 0 rfl) ?_
  refine lv_lconst (v := 0) hx hb dX9_gathers_36 (by decide) ?_
  refine z_put0 (D := (dC, dI)) (ci := 9) (v := .long 0) (ty := .long) (C := RX9) (T := TX9) (N := 60) hx hb hts hi9 tyX9 tyX9_ok nmX9 hown hK hP hD hS 0 rfl rfl 51 (by decide) hk7 (fun _ h9 => h9) rfl (by decide +kernel) rfl rfl rfl dX9_gathers_37 (fun H locs hP hS => ?_)
  refine lv_iconst (v := 0) hx hb dX9_gathers_40 (by decide) ?_
  refine lv_istore_n (lv' := [(1, .int 0), (0, .ref (am 0))]) hx hb dX9_gathers_41 rfl hl (by decide) rfl (fun ls hl => ?_)
  refine lv_iload_n hx hb dX9_gathers_42 rfl (lv_at hl 0 rfl) ?_
  refine lv_aload_n hx hb dX9_gathers_43 rfl (lv_at hl 1 rfl) ?_
  refine va_get (D := (dC, dI)) (ci := 9) (v := .int 0) (C := RX9) (T := TX9) (N := 60) hx hb hts hi9 hown hK hP 0 rfl rfl 43 (by decide) hk8 (fun _ h9 => h9) rfl dX9_gathers_44 ?_
  refine lv_icmp_ge (tgt := 200) hx hb dX9_gathers_47 (by decide) (fun _ => ?_) (fun c => absurd (by decide) c)
  exact z_vret () hx hb hr hlocks hK hP hD hS hAe hQ rfl trivial dX9_gathers_200
set_option maxHeartbeats 4000000 in
set_option maxRecDepth 100000 in
theorem c_X9_areBoth_230 (l : Launch) (dC : Nat → ClassId) (dI : Nat → Nat → Nat) (cB cI cJ cZ cP cQ : ClassId) (am : Nat → Nat) (sz : Nat) (w_w_w_p1 : Int32) : Met l yX9_areBoth wsX9_areBoth ({ frames := 0, cells := 0, slots := 0, locals := 0 } : Room) (zPc [.ref (am 0)] (dC, dI) (zT cB cI cJ cZ cP cQ) [(am 0, .inr (9, ((mf0 am).set 42 (.long w_w_w_p1.toInt64))))] sz [] []) (va_Qi (fun r _ => (fun r => r = 0) r) (zB (dC, dI) (zT cB cI cJ cZ cP cQ) (fun _ : Unit => [(am 0, .inr (9, ((mf0 am).set 42 (.long w_w_w_p1.toInt64))))]) [(am 0, .inr (9, ((mf0 am).set 42 (.long w_w_w_p1.toInt64))))] sz) (va_A [(am 0, .inr (9, ((mf0 am).set 42 (.long w_w_w_p1.toInt64))))] sz)) 0 0 (va_A [(am 0, .inr (9, ((mf0 am).set 42 (.long w_w_w_p1.toInt64))))] sz) := by
  refine z_enter (cc := cX9_areBoth) (maxL := 1) (ret := (some .boolean)) (by decide) rfl (Nat.le_of_ble_eq_true rfl) ?_
  intro p e s m below meth c A ls Q H locs hx hb hr hml hown hts hlocks hin hK hP hD hA hX hS hAe hQ hl
  have hown : s.vm.findClass RX9 = some m.cls := hown
  have hi9 : ∀ w ∈ wsX90, w ∈ wsX9_areBoth := fun w h => List.mem_cons_of_mem _ (List.mem_append_right _ h)
  have hk0 := hts (.fieldLink RX9 378 "MonthPushModel" "n" "J") (by decide +kernel)
  have hl : lv_has ls 1 [(0, .ref (am 0))] := hl
  refine lv_aload_n hx hb dX9_areBoth_0 rfl (lv_at hl 0 rfl) ?_
  refine va_get (D := (dC, dI)) (ci := 9) (v := .long 0) (C := RX9) (T := TX9) (N := 60) hx hb hts hi9 hown hK hP 0 rfl rfl 44 (by decide) hk0 (fun _ h9 => h9) rfl dX9_areBoth_1 ?_
  refine lv_lconst (v := 0) hx hb dX9_areBoth_4 (by decide) ?_
  refine W.lcmp hx hb dX9_areBoth_5 ?_
  refine z_topi (y := 0) (by decide +kernel) ?_
  refine lv_if_le (tgt := 22) hx hb dX9_areBoth_6 (by decide) (fun _ => ?_) (fun c => absurd (by decide) c)
  refine lv_iconst (v := 0) hx hb dX9_areBoth_22 (by decide) ?_
  exact z_zret () hx hb hr hlocks hK hP hD hS hAe hQ rfl rfl (by decide) dX9_areBoth_23
set_option maxHeartbeats 4000000 in
set_option maxRecDepth 100000 in
theorem c_X9_untold_231 (l : Launch) (dC : Nat → ClassId) (dI : Nat → Nat → Nat) (cB cI cJ cZ cP cQ : ClassId) (am : Nat → Nat) (sz : Nat) (w_w_w_p1 : Int32) : Met l yX9_untold wsX9_untold ({ frames := 0, cells := 0, slots := 0, locals := 0 } : Room) (zPc [.ref (am 0)] (dC, dI) (zT cB cI cJ cZ cP cQ) [(am 0, .inr (9, ((mf0 am).set 42 (.long w_w_w_p1.toInt64))))] sz [] []) (va_Ql (fun r _ => (fun r => r = (-2000000000)) r) (zB (dC, dI) (zT cB cI cJ cZ cP cQ) (fun _ : Unit => [(am 0, .inr (9, ((mf0 am).set 42 (.long w_w_w_p1.toInt64))))]) [(am 0, .inr (9, ((mf0 am).set 42 (.long w_w_w_p1.toInt64))))] sz) (va_A [(am 0, .inr (9, ((mf0 am).set 42 (.long w_w_w_p1.toInt64))))] sz)) 0 0 (va_A [(am 0, .inr (9, ((mf0 am).set 42 (.long w_w_w_p1.toInt64))))] sz) := by
  refine z_enter (cc := cX9_untold) (maxL := 1) (ret := (some .long)) (by decide) rfl (Nat.le_of_ble_eq_true rfl) ?_
  intro p e s m below meth c A ls Q H locs hx hb hr hml hown hts hlocks hin hK hP hD hA hX hS hAe hQ hl
  have hown : s.vm.findClass RX9 = some m.cls := hown
  have hi9 : ∀ w ∈ wsX90, w ∈ wsX9_untold := fun w h => List.mem_cons_of_mem _ (List.mem_append_right _ h)
  have hk0 := hts (.fieldLink RX9 402 "MonthPushModel" "isTold" "Z") (by decide +kernel)
  have hk1 := hts (.constantLong RX9 408 (-2000000000)) (by decide +kernel)
  have hl : lv_has ls 1 [(0, .ref (am 0))] := hl
  refine lv_aload_n hx hb dX9_untold_0 rfl (lv_at hl 0 rfl) ?_
  refine lv_iconst (v := 0) hx hb dX9_untold_1 (by decide) ?_
  refine z_put0 (D := (dC, dI)) (ci := 9) (v := .int 0) (ty := .boolean) (C := RX9) (T := TX9) (N := 60) hx hb hts hi9 tyX9 tyX9_ok nmX9 hown hK hP hD hS 0 rfl rfl 53 (by decide) hk0 (fun _ h9 => h9) rfl (by decide +kernel) rfl rfl rfl dX9_untold_2 (fun H locs hP hS => ?_)
  refine lv_ldc2 hx hb hown hk1 dX9_untold_5 ?_
  exact z_lret () hx hb hr hlocks hK hP hD hS hAe hQ rfl rfl dX9_untold_8
set_option maxHeartbeats 4000000 in
set_option maxRecDepth 100000 in
theorem c_X9_byMoved_231 (l : Launch) (dC : Nat → ClassId) (dI : Nat → Nat → Nat) (cB cI cJ cZ cP cQ : ClassId) (am : Nat → Nat) (sz : Nat) (w_w_p1 : Int32) : Met l yX9_byMoved wsX9_byMoved ({ frames := 1, cells := 0, slots := 0, locals := 21 } : Room) (zPc [.ref (am 0)] (dC, dI) (zT cB cI cJ cZ cP cQ) [(am 0, .inr (9, ((mf0 am).set 42 (.long w_w_p1.toInt64))))] sz [] []) (va_Ql (fun r _ => (fun r => r = (-2000000000)) r) (zB (dC, dI) (zT cB cI cJ cZ cP cQ) (fun _ : Unit => [(am 0, .inr (9, ((mf0 am).set 42 (.long w_w_p1.toInt64))))]) [(am 0, .inr (9, ((mf0 am).set 42 (.long w_w_p1.toInt64))))] sz) (va_A [(am 0, .inr (9, ((mf0 am).set 42 (.long w_w_p1.toInt64))))] sz)) 0 0 (va_A [(am 0, .inr (9, ((mf0 am).set 42 (.long w_w_p1.toInt64))))] sz) := by
  refine z_enter (cc := cX9_byMoved) (maxL := 1) (ret := (some .long)) (by decide) rfl (Nat.le_of_ble_eq_true rfl) ?_
  intro p e s m below meth c A ls Q H locs hx hb hr hml hown hts hlocks hin hK hP hD hA hX hS hAe hQ hl
  have hown : s.vm.findClass RX9 = some m.cls := hown
  have hl : lv_has ls 1 [(0, .ref (am 0))] := hl
  refine lv_aload_n hx hb dX9_byMoved_0 rfl (lv_at hl 0 rfl) ?_
  refine z_finv (w' := fun (u1 : Unit) => [(am 0, .inr (9, ((mf0 am).set 42 (.long w_w_p1.toInt64))))]) (va_runV (As := []) (rest := []) ⟨hx, hb, hml, hown, hts⟩ (c_X9_gathers_229 l dC dI cB cI cJ cZ cP cQ am H.size w_w_p1) (cwV 0 hts gX9_byMoved_X9_gathers rfl rfl rfl (by decide +kernel) ⟨Nat.le_of_ble_eq_true rfl, Nat.le_of_ble_eq_true rfl⟩) (z_pV (ci := 9) hK hP hD zX_nil [0] (by decide) rfl rfl 0 rfl) rfl rfl hl.1 rfl (lv_room (Nat.le_of_ble_eq_true rfl)) dX9_byMoved_1 ⟨Nat.le_of_ble_eq_true rfl, Nat.le_of_ble_eq_true rfl⟩) hP hD hS hA [0] [] [0] rfl rfl (by decide) (by decide) (fun _ => rfl) (by decide) (fun u1 H locs hp3 hP hD hS => ?_)
  have hP : va_P (dC, dI) vwCl [(am 0, .inr (9, ((mf0 am).set 42 (.long w_w_p1.toInt64))))] H := hP
  have hD : va_D A [(am 0, .inr (9, ((mf0 am).set 42 (.long w_w_p1.toInt64))))] := hD
  refine W.widen (k := 0) (n := 0) (by decide) (by decide) ?_
  refine lv_aload_n hx hb dX9_byMoved_4 rfl (lv_at hl 0 rfl) ?_
  refine z_fini (w' := fun (u4 : Unit) => [(am 0, .inr (9, ((mf0 am).set 42 (.long w_w_p1.toInt64))))]) (va_runV (As := []) (rest := []) ⟨hx, hb, hml, hown, hts⟩ (c_X9_areBoth_230 l dC dI cB cI cJ cZ cP cQ am H.size w_w_p1) (cwV 0 hts gX9_byMoved_X9_areBoth rfl rfl rfl (by decide +kernel) ⟨Nat.le_of_ble_eq_true rfl, Nat.le_of_ble_eq_true rfl⟩) (z_pV (ci := 9) hK hP hD zX_nil [0] (by decide) rfl rfl 0 rfl) rfl rfl hl.1 rfl (lv_room (Nat.le_of_ble_eq_true rfl)) dX9_byMoved_5 ⟨Nat.le_of_ble_eq_true rfl, Nat.le_of_ble_eq_true rfl⟩) hP hD hS hA [0] [] [0] rfl rfl (by decide) (by decide) (fun _ => rfl) (by decide) (fun r5 u4 H locs hp6 hP hD hS => ?_)
  have hP : va_P (dC, dI) vwCl [(am 0, .inr (9, ((mf0 am).set 42 (.long w_w_p1.toInt64))))] H := hP
  have hD : va_D A [(am 0, .inr (9, ((mf0 am).set 42 (.long w_w_p1.toInt64))))] := hD
  refine W.widen (k := 0) (n := 0) (by decide) (by decide) ?_
  obtain rfl : r5 = 0 := hp6
  refine lv_if_eq (tgt := 56) hx hb dX9_byMoved_8 (by decide) (fun _ => ?_) (fun c => absurd (by decide) c)
  refine lv_aload_n hx hb dX9_byMoved_56 rfl (lv_at hl 0 rfl) ?_
  refine z_finl (w' := fun (u7 : Unit) => [(am 0, .inr (9, ((mf0 am).set 42 (.long w_w_p1.toInt64))))]) (va_runV (As := []) (rest := []) ⟨hx, hb, hml, hown, hts⟩ (c_X9_untold_231 l dC dI cB cI cJ cZ cP cQ am H.size w_w_p1) (cwV 0 hts gX9_byMoved_X9_untold rfl rfl rfl (by decide +kernel) ⟨Nat.le_of_ble_eq_true rfl, Nat.le_of_ble_eq_true rfl⟩) (z_pV (ci := 9) hK hP hD zX_nil [0] (by decide) rfl rfl 0 rfl) rfl rfl hl.1 rfl (lv_room (Nat.le_of_ble_eq_true rfl)) dX9_byMoved_57 ⟨Nat.le_of_ble_eq_true rfl, Nat.le_of_ble_eq_true rfl⟩) hP hD hS hA [0] [] [0] rfl rfl (by decide) (by decide) (fun _ => rfl) (by decide) (fun r8 u7 H locs hp9 hP hD hS => ?_)
  have hP : va_P (dC, dI) vwCl [(am 0, .inr (9, ((mf0 am).set 42 (.long w_w_p1.toInt64))))] H := hP
  have hD : va_D A [(am 0, .inr (9, ((mf0 am).set 42 (.long w_w_p1.toInt64))))] := hD
  refine W.widen (k := 0) (n := 0) (by decide) (by decide) ?_
  obtain rfl : r8 = (-2000000000) := hp9
  exact z_lret () hx hb hr hlocks hK hP hD hS hAe hQ rfl rfl dX9_byMoved_60
set_option maxHeartbeats 4000000 in
set_option maxRecDepth 100000 in
theorem c_X9_usuals_231 (l : Launch) (dC : Nat → ClassId) (dI : Nat → Nat → Nat) (cB cI cJ cZ cP cQ : ClassId) (am : Nat → Nat) (sz : Nat) (p1 : Int32) (w_p1 : Int32) : Met l yX9_usuals wsX9_usuals ({ frames := 2, cells := 0, slots := 0, locals := 41 } : Room) (zPc [.ref (am 0), .int p1] (dC, dI) (zT cB cI cJ cZ cP cQ) [(am 0, .inr (9, ((mf0 am).set 42 (.long w_p1.toInt64))))] sz [] []) (va_Qi (fun r _ => (fun r => r = 0) r) (zB (dC, dI) (zT cB cI cJ cZ cP cQ) (fun _ : Unit => [(am 0, .inr (9, ((mf0 am).set 42 (.long w_p1.toInt64))))]) [(am 0, .inr (9, ((mf0 am).set 42 (.long w_p1.toInt64))))] sz) (va_A [(am 0, .inr (9, ((mf0 am).set 42 (.long w_p1.toInt64))))] sz)) 0 0 (va_A [(am 0, .inr (9, ((mf0 am).set 42 (.long w_p1.toInt64))))] sz) := by
  refine z_enter (cc := cX9_usuals) (maxL := 7) (ret := (some .boolean)) (by decide) rfl (Nat.le_of_ble_eq_true rfl) ?_
  intro p e s m below meth c A ls Q H locs hx hb hr hml hown hts hlocks hin hK hP hD hA hX hS hAe hQ hl
  have hown : s.vm.findClass RX9 = some m.cls := hown
  have hi9 : ∀ w ∈ wsX90, w ∈ wsX9_usuals := fun w h => List.mem_cons_of_mem _ (List.mem_append_right _ h)
  have hk0 := hts (.fieldLink RX9 402 "MonthPushModel" "isTold" "Z") (by decide +kernel)
  have hl : lv_has ls 7 [(0, .ref (am 0)), (1, .int p1)] := hl
  refine lv_aload_n hx hb dX9_usuals_0 rfl (lv_at hl 0 rfl) ?_
  refine z_finl (w' := fun (u1 : Unit) => [(am 0, .inr (9, ((mf0 am).set 42 (.long w_p1.toInt64))))]) (va_runV (As := []) (rest := []) ⟨hx, hb, hml, hown, hts⟩ (c_X9_byMoved_231 l dC dI cB cI cJ cZ cP cQ am H.size w_p1) (cwV 0 hts gX9_usuals_X9_byMoved rfl rfl rfl (by decide +kernel) ⟨Nat.le_of_ble_eq_true rfl, Nat.le_of_ble_eq_true rfl⟩) (z_pV (ci := 9) hK hP hD zX_nil [0] (by decide) rfl rfl 0 rfl) rfl rfl hl.1 rfl (lv_room (Nat.le_of_ble_eq_true rfl)) dX9_usuals_1 ⟨Nat.le_of_ble_eq_true rfl, Nat.le_of_ble_eq_true rfl⟩) hP hD hS hA [0] [] [0] rfl rfl (by decide) (by decide) (fun _ => rfl) (by decide) (fun r2 u1 H locs hp3 hP hD hS => ?_)
  have hP : va_P (dC, dI) vwCl [(am 0, .inr (9, ((mf0 am).set 42 (.long w_p1.toInt64))))] H := hP
  have hD : va_D A [(am 0, .inr (9, ((mf0 am).set 42 (.long w_p1.toInt64))))] := hD
  refine W.widen (k := 0) (n := 0) (by decide) (by decide) ?_
  obtain rfl : r2 = (-2000000000) := hp3
  refine lv_lstore_n (lv' := [(2, .long (-2000000000)), (0, .ref (am 0)), (1, .int p1)]) hx hb dX9_usuals_4 rfl hl (by decide) rfl (fun ls hl => ?_)
  refine lv_aload_n hx hb dX9_usuals_5 rfl (lv_at hl 1 rfl) ?_
  refine va_get (D := (dC, dI)) (ci := 9) (v := .int 0) (C := RX9) (T := TX9) (N := 60) hx hb hts hi9 hown hK hP 0 rfl rfl 53 (by decide) hk0 (fun _ h9 => h9) rfl dX9_usuals_6 ?_
  refine lv_if_eq (tgt := 39) hx hb dX9_usuals_9 (by decide) (fun _ => ?_) (fun c => absurd (by decide) c)
  refine lv_iconst (v := 0) hx hb dX9_usuals_39 (by decide) ?_
  exact z_zret () hx hb hr hlocks hK hP hD hS hAe hQ rfl rfl (by decide) dX9_usuals_40
set_option maxHeartbeats 4000000 in
set_option maxRecDepth 100000 in
theorem c_X9_hats_231 (l : Launch) (dC : Nat → ClassId) (dI : Nat → Nat → Nat) (cB cI cJ cZ cP cQ : ClassId) (am : Nat → Nat) (sz : Nat) (p1 : Int32) (p2 : Int32) (p3 : Int32) (p4 : Int32) : Met l yX9_hats wsX9_hats ({ frames := 3, cells := 0, slots := 0, locals := 67 } : Room) (zPc [.ref (am 0), .int p1, .int p2, .int p3, .int p4] (dC, dI) (zT cB cI cJ cZ cP cQ) [(am 0, .inr (9, mf0 am)), (am 25, .inl (cI, 5, .inl (fun _ => 0)))] sz [] []) (va_Qi (fun r _ => (fun r => (r = (-2) ∧ p1.toInt < 0) ∨ (r = (-2) ∧ 0 ≤ p1.toInt ∧ 2000000000 < p1.toInt) ∨ (r = (-2) ∧ 0 ≤ p1.toInt ∧ p1.toInt ≤ 2000000000 ∧ p2.toInt < 1) ∨ (r = (-2) ∧ 0 ≤ p1.toInt ∧ p1.toInt ≤ 2000000000 ∧ 1 ≤ p2.toInt ∧ 40 < p2.toInt) ∨ (r = (-2) ∧ 0 ≤ p1.toInt ∧ p1.toInt ≤ 2000000000 ∧ 1 ≤ p2.toInt ∧ p2.toInt ≤ 40 ∧ p3.toInt < 1) ∨ (r = (-2) ∧ 0 ≤ p1.toInt ∧ p1.toInt ≤ 2000000000 ∧ 1 ≤ p2.toInt ∧ p2.toInt ≤ 40 ∧ 1 ≤ p3.toInt ∧ 10 < p3.toInt) ∨ (r = (-2) ∧ 0 ≤ p1.toInt ∧ p1.toInt ≤ 2000000000 ∧ 1 ≤ p2.toInt ∧ p2.toInt ≤ 40 ∧ 1 ≤ p3.toInt ∧ p3.toInt ≤ 10 ∧ p4.toInt < 0) ∨ (r = (-2) ∧ 0 ≤ p1.toInt ∧ p1.toInt ≤ 2000000000 ∧ 1 ≤ p2.toInt ∧ p2.toInt ≤ 40 ∧ 1 ≤ p3.toInt ∧ p3.toInt ≤ 10 ∧ 0 ≤ p4.toInt ∧ 2 < p4.toInt) ∨ (r = 0 ∧ 0 ≤ p1.toInt ∧ p1.toInt ≤ 2000000000 ∧ 1 ≤ p2.toInt ∧ p2.toInt ≤ 40 ∧ 1 ≤ p3.toInt ∧ p3.toInt ≤ 10 ∧ 0 ≤ p4.toInt ∧ p4.toInt ≤ 2 ∧ ¬ p4.toInt = 1) ∨ (r = (-2000000000) ∧ 0 ≤ p1.toInt ∧ p1.toInt ≤ 2000000000 ∧ 1 ≤ p2.toInt ∧ p2.toInt ≤ 40 ∧ 1 ≤ p3.toInt ∧ p3.toInt ≤ 10 ∧ 0 ≤ p4.toInt ∧ p4.toInt ≤ 2 ∧ p4.toInt = 1)) r) (zB (dC, dI) (zT cB cI cJ cZ cP cQ) (fun _ : Unit => []) [(am 0, .inr (9, mf0 am)), (am 25, .inl (cI, 5, .inl (fun _ => 0)))] sz) (va_A [(am 0, .inr (9, mf0 am)), (am 25, .inl (cI, 5, .inl (fun _ => 0)))] sz)) 0 0 (va_A [(am 0, .inr (9, mf0 am)), (am 25, .inl (cI, 5, .inl (fun _ => 0)))] sz) := by
  refine z_enter (cc := cX9_hats) (maxL := 11) (ret := (some .int)) (by decide) rfl (Nat.le_of_ble_eq_true rfl) ?_
  intro p e s m below meth c A ls Q H locs hx hb hr hml hown hts hlocks hin hK hP hD hA hX hS hAe hQ hl
  have hown : s.vm.findClass RX9 = some m.cls := hown
  have hi9 : ∀ w ∈ wsX90, w ∈ wsX9_hats := fun w h => List.mem_cons_of_mem _ (List.mem_append_right _ h)
  have hk0 := hts (.fieldLink RX9 125 "MonthPushModel" "thrown" "I") (by decide +kernel)
  have hk1 := hts (.constantLong RX9 494 40) (by decide +kernel)
  have hk2 := hts (.constantLong RX9 479 10) (by decide +kernel)
  have hk3 := hts (.constantLong RX9 455 2) (by decide +kernel)
  have hk4 := hts (.fieldLink RX9 328 "MonthPushModel" "x" "J") (by decide +kernel)
  have hk5 := hts (.fieldLink RX9 89 "MonthPushModel" "sheets" "[I") (by decide +kernel)
  have hk6 := hts (.fieldLink RX9 375 "MonthPushModel" "upTo" "I") (by decide +kernel)
  have hk7 := hts (.fieldLink RX9 402 "MonthPushModel" "isTold" "Z") (by decide +kernel)
  have hk8 := hts (.constant RX9 369 (-2000000000)) (by decide +kernel)
  have hl : lv_has ls 11 [(0, .ref (am 0)), (1, .int p1), (2, .int p2), (3, .int p3), (4, .int p4)] := hl
  refine lv_aload_n hx hb dX9_hats_0 rfl (lv_at hl 0 rfl) ?_
  refine lv_iconst (v := 0) hx hb dX9_hats_1 (by decide) ?_
  refine z_put0 (D := (dC, dI)) (ci := 9) (v := .int 0) (ty := .int) (C := RX9) (T := TX9) (N := 60) hx hb hts hi9 tyX9 tyX9_ok nmX9 hown hK hP hD hS 0 rfl rfl 0 (by decide) hk0 (fun _ h9 => h9) rfl (by decide +kernel) rfl rfl rfl dX9_hats_2 (fun H locs hP hS => ?_)
  refine lv_iload_n hx hb dX9_hats_5 rfl (lv_at hl 1 rfl) ?_
  refine z_fini (w' := fun (u1 : Unit) => [(am 0, .inr (9, mf0 am)), (am 25, .inl (cI, 5, .inl (fun _ => 0)))]) (va_runS (As := [.int p1]) (rest := []) ⟨hx, hb, hml, hown, hts⟩ (c_X9_isSeed_173 l dC dI cB cI cJ cZ cP cQ H.size p1) (va_cwS 1 hts gX9_hats_X9_isSeed rfl rfl rfl (by decide +kernel) ⟨Nat.le_of_ble_eq_true rfl, Nat.le_of_ble_eq_true rfl⟩) (z_pS hK hP hD zX_nil [] (by decide) rfl) rfl rfl hl.1 rfl (lv_room (Nat.le_of_ble_eq_true rfl)) dX9_hats_6 ⟨Nat.le_of_ble_eq_true rfl, Nat.le_of_ble_eq_true rfl⟩) hP hD hS hA [] [0, 1] [0, 1] rfl rfl (by decide) (by decide) (fun _ => rfl) (by decide) (fun r2 u1 H locs hp3 hP hD hS => ?_)
  have hP : va_P (dC, dI) vwCl [(am 0, .inr (9, mf0 am)), (am 25, .inl (cI, 5, .inl (fun _ => 0)))] H := hP
  have hD : va_D A [(am 0, .inr (9, mf0 am)), (am 25, .inl (cI, 5, .inl (fun _ => 0)))] := hD
  refine W.widen (k := 0) (n := 0) (by decide) (by decide) ?_
  rcases hp3 with ⟨rfl, f4⟩ | ⟨rfl, f5, f6⟩ | ⟨rfl, f7, f8⟩
  · refine lv_if_eq (tgt := 49) hx hb dX9_hats_9 (by decide) (fun _ => ?_) (fun c => absurd (by decide) c)
    refine lv_bipush (v := (-2)) hx hb dX9_hats_49 (by decide) ?_
    have hP9 := hP.sub (ws' := []) [] rfl
    have hD9 := hD.sub (ws' := []) [] (by decide) rfl
    exact z_iret () hx hb hr hlocks hK hP9 hD9 hS hAe hQ rfl (Or.inl (⟨rfl, f4⟩)) dX9_hats_51
  · refine lv_if_eq (tgt := 49) hx hb dX9_hats_9 (by decide) (fun _ => ?_) (fun c => absurd (by decide) c)
    refine lv_bipush (v := (-2)) hx hb dX9_hats_49 (by decide) ?_
    have hP9 := hP.sub (ws' := []) [] rfl
    have hD9 := hD.sub (ws' := []) [] (by decide) rfl
    exact z_iret () hx hb hr hlocks hK hP9 hD9 hS hAe hQ rfl (Or.inr (Or.inl ⟨rfl, f5, f6⟩)) dX9_hats_51
  · refine lv_if_eq (tgt := 49) hx hb dX9_hats_9 (by decide) (fun c => absurd c (by decide)) (fun _ => ?_)
    refine lv_iload_n hx hb dX9_hats_12 rfl (lv_at hl 2 rfl) ?_
    refine lv_i2l hx hb dX9_hats_13 rfl ?_
    refine lv_lconst (v := 1) hx hb dX9_hats_14 (by decide) ?_
    refine lv_ldc2 hx hb hown hk1 dX9_hats_15 ?_
    refine z_fini (w' := fun (u9 : Unit) => [(am 0, .inr (9, mf0 am)), (am 25, .inl (cI, 5, .inl (fun _ => 0)))]) (va_runS (As := [.long p2.toInt64, .long 1, .long 40]) (rest := []) ⟨hx, hb, hml, hown, hts⟩ (c_X9_in_221 l dC dI cB cI cJ cZ cP cQ H.size p2) (va_cwS 3 hts gX9_hats_X9_in rfl rfl rfl (by decide +kernel) ⟨Nat.le_of_ble_eq_true rfl, Nat.le_of_ble_eq_true rfl⟩) (z_pS hK hP hD zX_nil [] (by decide) rfl) rfl rfl hl.1 rfl (lv_room (Nat.le_of_ble_eq_true rfl)) dX9_hats_18 ⟨Nat.le_of_ble_eq_true rfl, Nat.le_of_ble_eq_true rfl⟩) hP hD hS hA [] [0, 1] [0, 1] rfl rfl (by decide) (by decide) (fun _ => rfl) (by decide) (fun r10 u9 H locs hp11 hP hD hS => ?_)
    have hP : va_P (dC, dI) vwCl [(am 0, .inr (9, mf0 am)), (am 25, .inl (cI, 5, .inl (fun _ => 0)))] H := hP
    have hD : va_D A [(am 0, .inr (9, mf0 am)), (am 25, .inl (cI, 5, .inl (fun _ => 0)))] := hD
    refine W.widen (k := 0) (n := 0) (by decide) (by decide) ?_
    rcases hp11 with ⟨rfl, f12⟩ | ⟨rfl, f13, f14⟩ | ⟨rfl, f15, f16⟩
    · refine lv_if_eq (tgt := 49) hx hb dX9_hats_21 (by decide) (fun _ => ?_) (fun c => absurd (by decide) c)
      refine lv_bipush (v := (-2)) hx hb dX9_hats_49 (by decide) ?_
      have hP9 := hP.sub (ws' := []) [] rfl
      have hD9 := hD.sub (ws' := []) [] (by decide) rfl
      exact z_iret () hx hb hr hlocks hK hP9 hD9 hS hAe hQ rfl (Or.inr (Or.inr (Or.inl ⟨rfl, f7, f8, f12⟩))) dX9_hats_51
    · refine lv_if_eq (tgt := 49) hx hb dX9_hats_21 (by decide) (fun _ => ?_) (fun c => absurd (by decide) c)
      refine lv_bipush (v := (-2)) hx hb dX9_hats_49 (by decide) ?_
      have hP9 := hP.sub (ws' := []) [] rfl
      have hD9 := hD.sub (ws' := []) [] (by decide) rfl
      exact z_iret () hx hb hr hlocks hK hP9 hD9 hS hAe hQ rfl (Or.inr (Or.inr (Or.inr (Or.inl ⟨rfl, f7, f8, f13, f14⟩)))) dX9_hats_51
    · refine lv_if_eq (tgt := 49) hx hb dX9_hats_21 (by decide) (fun c => absurd c (by decide)) (fun _ => ?_)
      refine lv_iload_n hx hb dX9_hats_24 rfl (lv_at hl 3 rfl) ?_
      refine lv_i2l hx hb dX9_hats_25 rfl ?_
      refine lv_lconst (v := 1) hx hb dX9_hats_26 (by decide) ?_
      refine lv_ldc2 hx hb hown hk2 dX9_hats_27 ?_
      refine z_fini (w' := fun (u17 : Unit) => [(am 0, .inr (9, mf0 am)), (am 25, .inl (cI, 5, .inl (fun _ => 0)))]) (va_runS (As := [.long p3.toInt64, .long 1, .long 10]) (rest := []) ⟨hx, hb, hml, hown, hts⟩ (c_X9_in_214 l dC dI cB cI cJ cZ cP cQ H.size p3) (va_cwS 3 hts gX9_hats_X9_in rfl rfl rfl (by decide +kernel) ⟨Nat.le_of_ble_eq_true rfl, Nat.le_of_ble_eq_true rfl⟩) (z_pS hK hP hD zX_nil [] (by decide) rfl) rfl rfl hl.1 rfl (lv_room (Nat.le_of_ble_eq_true rfl)) dX9_hats_30 ⟨Nat.le_of_ble_eq_true rfl, Nat.le_of_ble_eq_true rfl⟩) hP hD hS hA [] [0, 1] [0, 1] rfl rfl (by decide) (by decide) (fun _ => rfl) (by decide) (fun r18 u17 H locs hp19 hP hD hS => ?_)
      have hP : va_P (dC, dI) vwCl [(am 0, .inr (9, mf0 am)), (am 25, .inl (cI, 5, .inl (fun _ => 0)))] H := hP
      have hD : va_D A [(am 0, .inr (9, mf0 am)), (am 25, .inl (cI, 5, .inl (fun _ => 0)))] := hD
      refine W.widen (k := 0) (n := 0) (by decide) (by decide) ?_
      rcases hp19 with ⟨rfl, f20⟩ | ⟨rfl, f21, f22⟩ | ⟨rfl, f23, f24⟩
      · refine lv_if_eq (tgt := 49) hx hb dX9_hats_33 (by decide) (fun _ => ?_) (fun c => absurd (by decide) c)
        refine lv_bipush (v := (-2)) hx hb dX9_hats_49 (by decide) ?_
        have hP9 := hP.sub (ws' := []) [] rfl
        have hD9 := hD.sub (ws' := []) [] (by decide) rfl
        exact z_iret () hx hb hr hlocks hK hP9 hD9 hS hAe hQ rfl (Or.inr (Or.inr (Or.inr (Or.inr (Or.inl ⟨rfl, f7, f8, f15, f16, f20⟩))))) dX9_hats_51
      · refine lv_if_eq (tgt := 49) hx hb dX9_hats_33 (by decide) (fun _ => ?_) (fun c => absurd (by decide) c)
        refine lv_bipush (v := (-2)) hx hb dX9_hats_49 (by decide) ?_
        have hP9 := hP.sub (ws' := []) [] rfl
        have hD9 := hD.sub (ws' := []) [] (by decide) rfl
        exact z_iret () hx hb hr hlocks hK hP9 hD9 hS hAe hQ rfl (Or.inr (Or.inr (Or.inr (Or.inr (Or.inr (Or.inl ⟨rfl, f7, f8, f15, f16, f21, f22⟩)))))) dX9_hats_51
      · refine lv_if_eq (tgt := 49) hx hb dX9_hats_33 (by decide) (fun c => absurd c (by decide)) (fun _ => ?_)
        refine lv_iload hx hb dX9_hats_36 (lv_at hl 4 rfl) ?_
        refine lv_i2l hx hb dX9_hats_38 rfl ?_
        refine lv_lconst (v := 0) hx hb dX9_hats_39 (by decide) ?_
        refine lv_ldc2 hx hb hown hk3 dX9_hats_40 ?_
        refine z_fini (w' := fun (u25 : Unit) => [(am 0, .inr (9, mf0 am)), (am 25, .inl (cI, 5, .inl (fun _ => 0)))]) (va_runS (As := [.long p4.toInt64, .long 0, .long 2]) (rest := []) ⟨hx, hb, hml, hown, hts⟩ (c_X9_in_222 l dC dI cB cI cJ cZ cP cQ H.size p4) (va_cwS 3 hts gX9_hats_X9_in rfl rfl rfl (by decide +kernel) ⟨Nat.le_of_ble_eq_true rfl, Nat.le_of_ble_eq_true rfl⟩) (z_pS hK hP hD zX_nil [] (by decide) rfl) rfl rfl hl.1 rfl (lv_room (Nat.le_of_ble_eq_true rfl)) dX9_hats_43 ⟨Nat.le_of_ble_eq_true rfl, Nat.le_of_ble_eq_true rfl⟩) hP hD hS hA [] [0, 1] [0, 1] rfl rfl (by decide) (by decide) (fun _ => rfl) (by decide) (fun r26 u25 H locs hp27 hP hD hS => ?_)
        have hP : va_P (dC, dI) vwCl [(am 0, .inr (9, mf0 am)), (am 25, .inl (cI, 5, .inl (fun _ => 0)))] H := hP
        have hD : va_D A [(am 0, .inr (9, mf0 am)), (am 25, .inl (cI, 5, .inl (fun _ => 0)))] := hD
        refine W.widen (k := 0) (n := 0) (by decide) (by decide) ?_
        rcases hp27 with ⟨rfl, f28⟩ | ⟨rfl, f29, f30⟩ | ⟨rfl, f31, f32⟩
        · refine lv_if_ne (tgt := 52) hx hb dX9_hats_46 (by decide) (fun c => absurd (by decide) c) (fun _ => ?_)
          refine lv_bipush (v := (-2)) hx hb dX9_hats_49 (by decide) ?_
          have hP9 := hP.sub (ws' := []) [] rfl
          have hD9 := hD.sub (ws' := []) [] (by decide) rfl
          exact z_iret () hx hb hr hlocks hK hP9 hD9 hS hAe hQ rfl (Or.inr (Or.inr (Or.inr (Or.inr (Or.inr (Or.inr (Or.inl ⟨rfl, f7, f8, f15, f16, f23, f24, f28⟩))))))) dX9_hats_51
        · refine lv_if_ne (tgt := 52) hx hb dX9_hats_46 (by decide) (fun c => absurd (by decide) c) (fun _ => ?_)
          refine lv_bipush (v := (-2)) hx hb dX9_hats_49 (by decide) ?_
          have hP9 := hP.sub (ws' := []) [] rfl
          have hD9 := hD.sub (ws' := []) [] (by decide) rfl
          exact z_iret () hx hb hr hlocks hK hP9 hD9 hS hAe hQ rfl (Or.inr (Or.inr (Or.inr (Or.inr (Or.inr (Or.inr (Or.inr (Or.inl ⟨rfl, f7, f8, f15, f16, f23, f24, f29, f30⟩)))))))) dX9_hats_51
        · refine lv_if_ne (tgt := 52) hx hb dX9_hats_46 (by decide) (fun _ => ?_) (fun c => absurd c (by decide))
          refine lv_aload_n hx hb dX9_hats_52 rfl (lv_at hl 0 rfl) ?_
          refine z_finl (w' := fun (u33 : Unit) => [(am 0, .inr (9, mf0 am)), (am 25, .inl (cI, 5, .inl (fun _ => 0)))]) (va_runV (As := []) (rest := []) ⟨hx, hb, hml, hown, hts⟩ (c_X9_plainOf_189 l dC dI cB cI cJ cZ cP cQ am H.size) (cwV 0 hts gX9_hats_X9_plainOf rfl rfl rfl (by decide +kernel) ⟨Nat.le_of_ble_eq_true rfl, Nat.le_of_ble_eq_true rfl⟩) (z_pV (ci := 9) hK hP hD zX_nil [0, 1] (by decide) rfl rfl 0 rfl) rfl rfl hl.1 rfl (lv_room (Nat.le_of_ble_eq_true rfl)) dX9_hats_53 ⟨Nat.le_of_ble_eq_true rfl, Nat.le_of_ble_eq_true rfl⟩) hP hD hS hA [0, 1] [] [0, 1] rfl rfl (by decide) (by decide) (fun _ => rfl) (by decide) (fun r34 u33 H locs hp35 hP hD hS => ?_)
          have hP : va_P (dC, dI) vwCl [(am 0, .inr (9, mf0 am)), (am 25, .inl (cI, 5, .inl (fun _ => 0)))] H := hP
          have hD : va_D A [(am 0, .inr (9, mf0 am)), (am 25, .inl (cI, 5, .inl (fun _ => 0)))] := hD
          refine W.widen (k := 0) (n := 0) (by decide) (by decide) ?_
          obtain rfl : r34 = (-2000000000) := hp35
          refine lv_lstore (lv' := [(5, .long (-2000000000)), (0, .ref (am 0)), (1, .int p1), (2, .int p2), (3, .int p3), (4, .int p4)]) hx hb dX9_hats_56 hl (by decide) rfl (fun ls hl => ?_)
          refine lv_iload hx hb dX9_hats_58 (lv_at hl 5 rfl) ?_
          refine lv_iconst (v := 1) hx hb dX9_hats_60 (by decide) ?_
          refine lv_icmp_ne (tgt := 75) hx hb dX9_hats_61 (by decide) (fun c_36 => ?_) (fun c_36 => ?_)
          · have f37 : ¬ p4.toInt = 1 := z_ne rfl (by decide) c_36
            refine lv_aload_n hx hb dX9_hats_75 rfl (lv_at hl 1 rfl) ?_
            refine lv_iload_n hx hb dX9_hats_76 rfl (lv_at hl 2 rfl) ?_
            refine lv_i2l hx hb dX9_hats_77 rfl ?_
            refine va_put (D := (dC, dI)) (ci := 9) (v := .long p1.toInt64) (ty := .long) (C := RX9) (T := TX9) (N := 60) hx hb hts hi9 tyX9 tyX9_ok nmX9 hown hK hP hD hS 0 rfl rfl 42 (by decide) hk4 (fun _ h9 => h9) rfl (by decide +kernel) rfl rfl (Nat.le_of_ble_eq_true rfl) dX9_hats_78 (fun H locs hP hD hS => ?_)
            have hP : va_P (dC, dI) vwCl [(am 0, .inr (9, ((mf0 am).set 42 (.long p1.toInt64)))), (am 25, .inl (cI, 5, .inl (fun _ => 0)))] H := hP
            have hD : va_D A [(am 0, .inr (9, ((mf0 am).set 42 (.long p1.toInt64)))), (am 25, .inl (cI, 5, .inl (fun _ => 0)))] := hD
            refine lv_iconst (v := 0) hx hb dX9_hats_81 (by decide) ?_
            refine lv_istore (lv' := [(7, .int 0), (5, .long (-2000000000)), (0, .ref (am 0)), (1, .int p1), (2, .int p2), (3, .int p3), (4, .int p4)]) hx hb dX9_hats_82 hl (by decide) rfl (fun ls hl => ?_)
            refine lv_iconst (v := 0) hx hb dX9_hats_84 (by decide) ?_
            refine lv_istore (lv' := [(8, .int 0), (7, .int 0), (5, .long (-2000000000)), (0, .ref (am 0)), (1, .int p1), (2, .int p2), (3, .int p3), (4, .int p4)]) hx hb dX9_hats_85 hl (by decide) rfl (fun ls hl => ?_)
            obtain ⟨N38, hN39, rfl⟩ : ∃ N : Nat, N ≤ 40 ∧ p2 = nI N := z_toNat (by omega) (by omega)
            have hP : va_P (dC, dI) vwCl [(am 0, .inr (9, ((mf0 am).set 42 (.long p1.toInt64)))), (am 25, .inl (cI, 5, .inl (fun _ => 0)))] H := by assumption
            have hD : va_D A [(am 0, .inr (9, ((mf0 am).set 42 (.long p1.toInt64)))), (am 25, .inl (cI, 5, .inl (fun _ => 0)))] := by assumption
            have hlp40 : ∀ (n i : Nat), i + n = N38 → 0 ≤ i → ∀ (H : Heap) (locs : List Loc), va_P (dC, dI) vwCl [(am 0, .inr (9, ((mf0 am).set 42 (.long p1.toInt64)))), (am 25, .inl (cI, 5, .inl (fun _ => 0)))] H → va_S A s.heap H locs → ∀ (ls : Array Slot), lv_has ls 11 [(8, .int (nI i)), (7, .int 0), (5, .long (-2000000000)), (0, .ref (am 0)), (1, .int p1), (2, .int (nI N38)), (3, .int p3), (4, .int p4)] → W p l e ({ frames := 3, cells := 0, slots := 0, locals := 67 } : Room) s m ([.ref (am 0), .int p1, .int (nI N38), .int p3, .int p4] : List Value).toArray below meth c H locs 0 0 Q (F0 m 87 ls []) := by
              intro n
              induction n with
              | zero =>
                intro i hi hi0 H locs hP hS ls hl
                have hiN : i = N38 := by omega
                refine lv_iload hx hb dX9_hats_87 (lv_at hl 0 rfl) ?_
                refine lv_iload_n hx hb dX9_hats_89 rfl (lv_at hl 5 rfl) ?_
                refine lv_icmp_ge (tgt := 232) hx hb dX9_hats_90 (by decide) (fun _ => ?_) (fun c => absurd (show (i : Int) < (N38 : Int) from z_nle (nI_toInt (by omega)) (nI_toInt (by omega)) c) (by omega))
                refine lv_iload hx hb dX9_hats_232 (lv_at hl 1 rfl) ?_
                have hP9 := hP.sub (ws' := []) [] rfl
                have hD9 := hD.sub (ws' := []) [] (by decide) rfl
                exact z_iret () hx hb hr hlocks hK hP9 hD9 hS hAe hQ rfl (Or.inr (Or.inr (Or.inr (Or.inr (Or.inr (Or.inr (Or.inr (Or.inr (Or.inl ⟨rfl, f7, f8, f15, f16, f23, f24, f31, f32, f37⟩))))))))) dX9_hats_234
              | succ n ih =>
                intro i hi hi0 H locs hP hS ls hl
                have hlt : i < N38 := by omega
                refine lv_iload hx hb dX9_hats_87 (lv_at hl 0 rfl) ?_
                refine lv_iload_n hx hb dX9_hats_89 rfl (lv_at hl 5 rfl) ?_
                refine lv_icmp_ge (tgt := 232) hx hb dX9_hats_90 (by decide) (fun c => absurd (show (N38 : Int) ≤ (i : Int) from z_le (nI_toInt (by omega)) (nI_toInt (by omega)) c) (by omega)) (fun _ => ?_)
                refine lv_iconst (v := 0) hx hb dX9_hats_93 (by decide) ?_
                refine lv_istore (lv' := [(9, .int 0), (8, .int (nI i)), (7, .int 0), (5, .long (-2000000000)), (0, .ref (am 0)), (1, .int p1), (2, .int (nI N38)), (3, .int p3), (4, .int p4)]) hx hb dX9_hats_94 hl (by decide) rfl (fun ls hl => ?_)
                refine lv_iload hx hb dX9_hats_96 (lv_at hl 0 rfl) ?_
                refine lv_aload_n hx hb dX9_hats_98 rfl (lv_at hl 4 rfl) ?_
                refine va_get (D := (dC, dI)) (ci := 9) (v := .ref (am 25)) (C := RX9) (T := TX9) (N := 60) hx hb hts hi9 hown hK hP 0 rfl rfl 35 (by decide) hk5 (fun _ h9 => h9) rfl dX9_hats_99 ?_
                refine lv_iconst (v := 0) hx hb dX9_hats_102 (by decide) ?_
                refine va_iald hx hb hK hP 1 1 rfl rfl (z_in (a := 0) (by decide) (by decide) (by decide)) dX9_hats_103 ?_
                refine z_topi (y := 0) rfl ?_
                refine lv_icmp_ge (tgt := 134) hx hb dX9_hats_104 (by decide) (fun _ => ?_) (fun c => absurd (by decide) c)
                refine lv_aload_n hx hb dX9_hats_134 rfl (lv_at hl 4 rfl) ?_
                refine lv_aload_n hx hb dX9_hats_135 rfl (lv_at hl 4 rfl) ?_
                refine va_get (D := (dC, dI)) (ci := 9) (v := .ref (am 25)) (C := RX9) (T := TX9) (N := 60) hx hb hts hi9 hown hK hP 0 rfl rfl 35 (by decide) hk5 (fun _ h9 => h9) rfl dX9_hats_136 ?_
                refine lv_iconst (v := 0) hx hb dX9_hats_139 (by decide) ?_
                refine va_iald hx hb hK hP 1 1 rfl rfl (z_in (a := 0) (by decide) (by decide) (by decide)) dX9_hats_140 ?_
                refine z_topi (y := 0) rfl ?_
                refine z_put0 (D := (dC, dI)) (ci := 9) (v := .int 0) (ty := .int) (C := RX9) (T := TX9) (N := 60) hx hb hts hi9 tyX9 tyX9_ok nmX9 hown hK hP hD hS 0 rfl rfl 43 (by decide) hk6 (fun _ h9 => h9) rfl (by decide +kernel) rfl rfl rfl dX9_hats_141 (fun H locs hP hS => ?_)
                refine lv_aload_n hx hb dX9_hats_144 rfl (lv_at hl 4 rfl) ?_
                refine z_finl (w' := fun (u41 : Unit) => [(am 0, .inr (9, ((mf0 am).set 42 (.long p1.toInt64)))), (am 25, .inl (cI, 5, .inl (fun _ => 0)))]) (va_runV (As := []) (rest := []) ⟨hx, hb, hml, hown, hts⟩ (c_X9_byMoved_226 l dC dI cB cI cJ cZ cP cQ am H.size p1) (cwV 0 hts gX9_hats_X9_byMoved rfl rfl rfl (by decide +kernel) ⟨Nat.le_of_ble_eq_true rfl, Nat.le_of_ble_eq_true rfl⟩) (z_pV (ci := 9) hK hP hD zX_nil [0] (by decide) rfl rfl 0 rfl) rfl rfl hl.1 rfl (lv_room (Nat.le_of_ble_eq_true rfl)) dX9_hats_145 ⟨Nat.le_of_ble_eq_true rfl, Nat.le_of_ble_eq_true rfl⟩) hP hD hS hA [0] [1] [1, 0] rfl rfl (by decide) (by decide) (fun _ => rfl) (by decide) (fun r42 u41 H locs hp43 hP hD hS => ?_)
                have hP : va_P (dC, dI) vwCl [(am 0, .inr (9, ((mf0 am).set 42 (.long p1.toInt64)))), (am 25, .inl (cI, 5, .inl (fun _ => 0)))] H := hP
                have hD : va_D A [(am 0, .inr (9, ((mf0 am).set 42 (.long p1.toInt64)))), (am 25, .inl (cI, 5, .inl (fun _ => 0)))] := hD
                refine W.widen (k := 0) (n := 0) (by decide) (by decide) ?_
                obtain rfl : r42 = (-2000000000) := hp43
                refine lv_lstore (lv' := [(9, .long (-2000000000)), (8, .int (nI i)), (7, .int 0), (5, .long (-2000000000)), (0, .ref (am 0)), (1, .int p1), (2, .int (nI N38)), (3, .int p3), (4, .int p4)]) hx hb dX9_hats_148 hl (by decide) rfl (fun ls hl => ?_)
                refine lv_iload hx hb dX9_hats_150 (lv_at hl 8 rfl) ?_
                refine lv_iconst (v := 2) hx hb dX9_hats_152 (by decide) ?_
                refine lv_icmp_ne (tgt := 187) hx hb dX9_hats_153 (by decide) (fun c_44 => ?_) (fun c_44 => ?_)
                · have f45 : ¬ p4.toInt = 2 := z_ne rfl (by decide) c_44
                  refine lv_iload hx hb dX9_hats_187 (lv_at hl 2 rfl) ?_
                  refine lv_aload_n hx hb dX9_hats_189 rfl (lv_at hl 4 rfl) ?_
                  refine va_get (D := (dC, dI)) (ci := 9) (v := .int 0) (C := RX9) (T := TX9) (N := 60) hx hb hts hi9 hown hK hP 0 rfl rfl 53 (by decide) hk7 (fun _ h9 => h9) rfl dX9_hats_190 ?_
                  refine lv_if_eq (tgt := 222) hx hb dX9_hats_193 (by decide) (fun _ => ?_) (fun c => absurd (by decide) c)
                  refine lv_iconst (v := 0) hx hb dX9_hats_222 (by decide) ?_
                  refine lv_iadd hx hb dX9_hats_223 ?_
                  refine z_topi (y := 0) (by decide +kernel) ?_
                  refine lv_istore (lv' := [(7, .int 0), (9, .long (-2000000000)), (8, .int (nI i)), (5, .long (-2000000000)), (0, .ref (am 0)), (1, .int p1), (2, .int (nI N38)), (3, .int p3), (4, .int p4)]) hx hb dX9_hats_224 hl (by decide) rfl (fun ls hl => ?_)
                  refine lv_iinc (v := nI (i + 1)) (lv' := [(8, .int (nI (i + 1))), (7, .int 0), (9, .long (-2000000000)), (5, .long (-2000000000)), (0, .ref (am 0)), (1, .int p1), (2, .int (nI N38)), (3, .int p3), (4, .int p4)]) hx hb dX9_hats_226 hl (k := 2) rfl (nI_1 i) (by decide) rfl (fun ls hl => ?_)
                  refine lv_goto (tgt := 87) hx hb dX9_hats_229 (by decide) ?_
                  exact ih (i + 1) (by omega) (by omega) _ _ hP hS ls (lv_sub hl [0, 1, 3, 4, 5, 6, 7, 8] rfl)
                · have f45 : p4.toInt = 2 := z_eq rfl (by decide) c_44
                  refine lv_iload hx hb dX9_hats_156 (lv_at hl 2 rfl) ?_
                  refine lv_aload_n hx hb dX9_hats_158 rfl (lv_at hl 4 rfl) ?_
                  refine lv_iload_n hx hb dX9_hats_159 rfl (lv_at hl 7 rfl) ?_
                  refine z_fini (w' := fun (u46 : Unit) => [(am 0, .inr (9, ((mf0 am).set 42 (.long p1.toInt64)))), (am 25, .inl (cI, 5, .inl (fun _ => 0)))]) (va_runV (As := [.int p3]) (rest := [.int 0]) ⟨hx, hb, hml, hown, hts⟩ (c_X9_usuals_231 l dC dI cB cI cJ cZ cP cQ am H.size p3 p1) (cwV 1 hts gX9_hats_X9_usuals rfl rfl rfl (by decide +kernel) ⟨Nat.le_of_ble_eq_true rfl, Nat.le_of_ble_eq_true rfl⟩) (z_pV (ci := 9) hK hP hD zX_nil [0] (by decide) rfl rfl 0 rfl) rfl rfl hl.1 rfl (lv_room (Nat.le_of_ble_eq_true rfl)) dX9_hats_160 ⟨Nat.le_of_ble_eq_true rfl, Nat.le_of_ble_eq_true rfl⟩) hP hD hS hA [0] [1] [1, 0] rfl rfl (by decide) (by decide) (fun _ => rfl) (by decide) (fun r47 u46 H locs hp48 hP hD hS => ?_)
                  have hP : va_P (dC, dI) vwCl [(am 0, .inr (9, ((mf0 am).set 42 (.long p1.toInt64)))), (am 25, .inl (cI, 5, .inl (fun _ => 0)))] H := hP
                  have hD : va_D A [(am 0, .inr (9, ((mf0 am).set 42 (.long p1.toInt64)))), (am 25, .inl (cI, 5, .inl (fun _ => 0)))] := hD
                  refine W.widen (k := 0) (n := 0) (by decide) (by decide) ?_
                  obtain rfl : r47 = 0 := hp48
                  refine lv_if_eq (tgt := 180) hx hb dX9_hats_163 (by decide) (fun _ => ?_) (fun c => absurd (by decide) c)
                  refine lv_iconst (v := 0) hx hb dX9_hats_180 (by decide) ?_
                  refine lv_iadd hx hb dX9_hats_181 ?_
                  refine z_topi (y := 0) (by decide +kernel) ?_
                  refine lv_istore (lv' := [(7, .int 0), (9, .long (-2000000000)), (8, .int (nI i)), (5, .long (-2000000000)), (0, .ref (am 0)), (1, .int p1), (2, .int (nI N38)), (3, .int p3), (4, .int p4)]) hx hb dX9_hats_182 hl (by decide) rfl (fun ls hl => ?_)
                  refine lv_goto (tgt := 226) hx hb dX9_hats_184 (by decide) ?_
                  refine lv_iinc (v := nI (i + 1)) (lv' := [(8, .int (nI (i + 1))), (7, .int 0), (9, .long (-2000000000)), (5, .long (-2000000000)), (0, .ref (am 0)), (1, .int p1), (2, .int (nI N38)), (3, .int p3), (4, .int p4)]) hx hb dX9_hats_226 hl (k := 2) rfl (nI_1 i) (by decide) rfl (fun ls hl => ?_)
                  refine lv_goto (tgt := 87) hx hb dX9_hats_229 (by decide) ?_
                  exact ih (i + 1) (by omega) (by omega) _ _ hP hS ls (lv_sub hl [0, 1, 3, 4, 5, 6, 7, 8] rfl)
            exact hlp40 N38 0 (by omega) (by omega) _ _ hP hS ls (lv_sub hl [0, 1, 2, 3, 4, 5, 6, 7] rfl)
          · have f37 : p4.toInt = 1 := z_eq rfl (by decide) c_36
            refine lv_aload_n hx hb dX9_hats_64 rfl (lv_at hl 1 rfl) ?_
            refine va_get (D := (dC, dI)) (ci := 9) (v := .int 0) (C := RX9) (T := TX9) (N := 60) hx hb hts hi9 hown hK hP 0 rfl rfl 53 (by decide) hk7 (fun _ h9 => h9) rfl dX9_hats_65 ?_
            refine lv_if_ne (tgt := 75) hx hb dX9_hats_68 (by decide) (fun c => absurd (by decide) c) (fun _ => ?_)
            refine lv_ldcw hx hb hown hk8 dX9_hats_71 ?_
            have hP9 := hP.sub (ws' := []) [] rfl
            have hD9 := hD.sub (ws' := []) [] (by decide) rfl
            exact z_iret () hx hb hr hlocks hK hP9 hD9 hS hAe hQ rfl (Or.inr (Or.inr (Or.inr (Or.inr (Or.inr (Or.inr (Or.inr (Or.inr (Or.inr ⟨rfl, f7, f8, f15, f16, f23, f24, f31, f32, f37⟩))))))))) dX9_hats_74
set_option maxHeartbeats 4000000 in
set_option maxRecDepth 100000 in
theorem c_X9_in_233 (l : Launch) (dC : Nat → ClassId) (dI : Nat → Nat → Nat) (cB cI cJ cZ cP cQ : ClassId) (sz : Nat) (p0 : Int32) : Met l yX9_in wsX9_in ({ frames := 0, cells := 0, slots := 0, locals := 0 } : Room) (zPc [.long p0.toInt64, .long 0, .long 1] (dC, dI) (zT cB cI cJ cZ cP cQ) [] sz [] []) (va_Qi (fun r _ => (fun r => (r = 0 ∧ p0.toInt < 0) ∨ (r = 0 ∧ 0 ≤ p0.toInt ∧ 1 < p0.toInt) ∨ (r = 1 ∧ 0 ≤ p0.toInt ∧ p0.toInt ≤ 1)) r) (zB (dC, dI) (zT cB cI cJ cZ cP cQ) (fun _ : Unit => []) [] sz) (va_A [] sz)) 0 0 (va_A [] sz) := by
  refine z_enter (cc := cX9_in) (maxL := 6) (ret := (some .boolean)) (by decide) rfl (Nat.le_of_ble_eq_true rfl) ?_
  intro p e s m below meth c A ls Q H locs hx hb hr hml hown hts hlocks hin hK hP hD hA hX hS hAe hQ hl
  have hown : s.vm.findClass RX9 = some m.cls := hown
  have hl : lv_has ls 6 [(0, .long p0.toInt64), (2, .long 0), (4, .long 1)] := hl
  refine lv_lload_n hx hb dX9_in_0 rfl (lv_at hl 0 rfl) ?_
  refine lv_lload_n hx hb dX9_in_1 rfl (lv_at hl 1 rfl) ?_
  refine W.lcmp hx hb dX9_in_2 ?_
  refine lv_if_lt (tgt := 17) hx hb dX9_in_3 (by decide) (fun c_1 => ?_) (fun c_1 => ?_)
  · have f2 : p0.toInt < 0 := z_llt (z_i2l p0) (by decide) c_1
    refine lv_iconst (v := 0) hx hb dX9_in_17 (by decide) ?_
    exact z_zret () hx hb hr hlocks hK hP hD hS hAe hQ rfl (Or.inl (⟨rfl, f2⟩)) (by decide) dX9_in_18
  · have f2 : 0 ≤ p0.toInt := z_lnlt (z_i2l p0) (by decide) c_1
    refine lv_lload_n hx hb dX9_in_6 rfl (lv_at hl 0 rfl) ?_
    refine lv_lload hx hb dX9_in_7 (lv_at hl 2 rfl) ?_
    refine W.lcmp hx hb dX9_in_9 ?_
    refine lv_if_gt (tgt := 17) hx hb dX9_in_10 (by decide) (fun c_3 => ?_) (fun c_3 => ?_)
    · have f4 : 1 < p0.toInt := z_lgt (z_i2l p0) (by decide) c_3
      refine lv_iconst (v := 0) hx hb dX9_in_17 (by decide) ?_
      exact z_zret () hx hb hr hlocks hK hP hD hS hAe hQ rfl (Or.inr (Or.inl ⟨rfl, f2, f4⟩)) (by decide) dX9_in_18
    · have f4 : p0.toInt ≤ 1 := z_lngt (z_i2l p0) (by decide) c_3
      refine lv_iconst (v := 1) hx hb dX9_in_13 (by decide) ?_
      refine lv_goto (tgt := 18) hx hb dX9_in_14 (by decide) ?_
      exact z_zret () hx hb hr hlocks hK hP hD hS hAe hQ rfl (Or.inr (Or.inr ⟨rfl, f2, f4⟩)) (by decide) dX9_in_18
set_option maxHeartbeats 4000000 in
set_option maxRecDepth 100000 in
theorem c_X9_whom_233 (l : Launch) (dC : Nat → ClassId) (dI : Nat → Nat → Nat) (cB cI cJ cZ cP cQ : ClassId) (am : Nat → Nat) (sz : Nat) (p1 : Int32) : Met l yX9_whom wsX9_whom ({ frames := 1, cells := 0, slots := 0, locals := 25 } : Room) (zPc [.ref (am 0), .int p1] (dC, dI) (zT cB cI cJ cZ cP cQ) [(am 0, .inr (9, mf0 am)), (am 25, .inl (cI, 5, .inl (fun _ => 0)))] sz [] []) (va_Qi (fun r _ => (fun r => (r = (-1) ∧ p1.toInt < 0) ∨ (r = (-1) ∧ 0 ≤ p1.toInt ∧ 1 < p1.toInt) ∨ (r = 0 ∧ 0 ≤ p1.toInt ∧ p1.toInt ≤ 1)) r) (zB (dC, dI) (zT cB cI cJ cZ cP cQ) (fun _ : Unit => []) [(am 0, .inr (9, mf0 am)), (am 25, .inl (cI, 5, .inl (fun _ => 0)))] sz) (va_A [(am 0, .inr (9, mf0 am)), (am 25, .inl (cI, 5, .inl (fun _ => 0)))] sz)) 0 0 (va_A [(am 0, .inr (9, mf0 am)), (am 25, .inl (cI, 5, .inl (fun _ => 0)))] sz) := by
  refine z_enter (cc := cX9_whom) (maxL := 4) (ret := (some .int)) (by decide) rfl (Nat.le_of_ble_eq_true rfl) ?_
  intro p e s m below meth c A ls Q H locs hx hb hr hml hown hts hlocks hin hK hP hD hA hX hS hAe hQ hl
  have hown : s.vm.findClass RX9 = some m.cls := hown
  have hi9 : ∀ w ∈ wsX90, w ∈ wsX9_whom := fun w h => List.mem_cons_of_mem _ (List.mem_append_right _ h)
  have hk0 := hts (.fieldLink RX9 125 "MonthPushModel" "thrown" "I") (by decide +kernel)
  have hk1 := hts (.fieldLink RX9 89 "MonthPushModel" "sheets" "[I") (by decide +kernel)
  have hl : lv_has ls 4 [(0, .ref (am 0)), (1, .int p1)] := hl
  refine lv_aload_n hx hb dX9_whom_0 rfl (lv_at hl 0 rfl) ?_
  refine lv_iconst (v := 0) hx hb dX9_whom_1 (by decide) ?_
  refine z_put0 (D := (dC, dI)) (ci := 9) (v := .int 0) (ty := .int) (C := RX9) (T := TX9) (N := 60) hx hb hts hi9 tyX9 tyX9_ok nmX9 hown hK hP hD hS 0 rfl rfl 0 (by decide) hk0 (fun _ h9 => h9) rfl (by decide +kernel) rfl rfl rfl dX9_whom_2 (fun H locs hP hS => ?_)
  refine lv_iload_n hx hb dX9_whom_5 rfl (lv_at hl 1 rfl) ?_
  refine lv_i2l hx hb dX9_whom_6 rfl ?_
  refine lv_lconst (v := 0) hx hb dX9_whom_7 (by decide) ?_
  refine lv_lconst (v := 1) hx hb dX9_whom_8 (by decide) ?_
  refine z_fini (w' := fun (u1 : Unit) => [(am 0, .inr (9, mf0 am)), (am 25, .inl (cI, 5, .inl (fun _ => 0)))]) (va_runS (As := [.long p1.toInt64, .long 0, .long 1]) (rest := []) ⟨hx, hb, hml, hown, hts⟩ (c_X9_in_233 l dC dI cB cI cJ cZ cP cQ H.size p1) (va_cwS 3 hts gX9_whom_X9_in rfl rfl rfl (by decide +kernel) ⟨Nat.le_of_ble_eq_true rfl, Nat.le_of_ble_eq_true rfl⟩) (z_pS hK hP hD zX_nil [] (by decide) rfl) rfl rfl hl.1 rfl (lv_room (Nat.le_of_ble_eq_true rfl)) dX9_whom_9 ⟨Nat.le_of_ble_eq_true rfl, Nat.le_of_ble_eq_true rfl⟩) hP hD hS hA [] [0, 1] [0, 1] rfl rfl (by decide) (by decide) (fun _ => rfl) (by decide) (fun r2 u1 H locs hp3 hP hD hS => ?_)
  have hP : va_P (dC, dI) vwCl [(am 0, .inr (9, mf0 am)), (am 25, .inl (cI, 5, .inl (fun _ => 0)))] H := hP
  have hD : va_D A [(am 0, .inr (9, mf0 am)), (am 25, .inl (cI, 5, .inl (fun _ => 0)))] := hD
  refine W.widen (k := 0) (n := 0) (by decide) (by decide) ?_
  rcases hp3 with ⟨rfl, f4⟩ | ⟨rfl, f5, f6⟩ | ⟨rfl, f7, f8⟩
  · refine lv_if_ne (tgt := 17) hx hb dX9_whom_12 (by decide) (fun c => absurd (by decide) c) (fun _ => ?_)
    refine lv_iconst (v := (-1)) hx hb dX9_whom_15 (by decide) ?_
    have hP9 := hP.sub (ws' := []) [] rfl
    have hD9 := hD.sub (ws' := []) [] (by decide) rfl
    exact z_iret () hx hb hr hlocks hK hP9 hD9 hS hAe hQ rfl (Or.inl (⟨rfl, f4⟩)) dX9_whom_16
  · refine lv_if_ne (tgt := 17) hx hb dX9_whom_12 (by decide) (fun c => absurd (by decide) c) (fun _ => ?_)
    refine lv_iconst (v := (-1)) hx hb dX9_whom_15 (by decide) ?_
    have hP9 := hP.sub (ws' := []) [] rfl
    have hD9 := hD.sub (ws' := []) [] (by decide) rfl
    exact z_iret () hx hb hr hlocks hK hP9 hD9 hS hAe hQ rfl (Or.inr (Or.inl ⟨rfl, f5, f6⟩)) dX9_whom_16
  · refine lv_if_ne (tgt := 17) hx hb dX9_whom_12 (by decide) (fun _ => ?_) (fun c => absurd c (by decide))
    refine lv_iconst (v := 0) hx hb dX9_whom_17 (by decide) ?_
    refine lv_istore_n (lv' := [(2, .int 0), (0, .ref (am 0)), (1, .int p1)]) hx hb dX9_whom_18 rfl hl (by decide) rfl (fun ls hl => ?_)
    refine lv_iconst (v := 0) hx hb dX9_whom_19 (by decide) ?_
    refine lv_istore_n (lv' := [(3, .int 0), (2, .int 0), (0, .ref (am 0)), (1, .int p1)]) hx hb dX9_whom_20 rfl hl (by decide) rfl (fun ls hl => ?_)
    refine lv_iload_n hx hb dX9_whom_21 rfl (lv_at hl 0 rfl) ?_
    refine lv_aload_n hx hb dX9_whom_22 rfl (lv_at hl 2 rfl) ?_
    refine va_get (D := (dC, dI)) (ci := 9) (v := .ref (am 25)) (C := RX9) (T := TX9) (N := 60) hx hb hts hi9 hown hK hP 0 rfl rfl 35 (by decide) hk1 (fun _ h9 => h9) rfl dX9_whom_23 ?_
    refine lv_iconst (v := 0) hx hb dX9_whom_26 (by decide) ?_
    refine va_iald hx hb hK hP 1 1 rfl rfl (z_in (a := 0) (by decide) (by decide) (by decide)) dX9_whom_27 ?_
    refine z_topi (y := 0) rfl ?_
    refine lv_icmp_ge (tgt := 65) hx hb dX9_whom_28 (by decide) (fun _ => ?_) (fun c => absurd (by decide) c)
    refine lv_iload_n hx hb dX9_whom_65 rfl (lv_at hl 1 rfl) ?_
    have hP9 := hP.sub (ws' := []) [] rfl
    have hD9 := hD.sub (ws' := []) [] (by decide) rfl
    exact z_iret () hx hb hr hlocks hK hP9 hD9 hS hAe hQ rfl (Or.inr (Or.inr ⟨rfl, f7, f8⟩)) dX9_whom_66
set_option maxHeartbeats 4000000 in
set_option maxRecDepth 100000 in
theorem c_X9_truthOf_235 (l : Launch) (dC : Nat → ClassId) (dI : Nat → Nat → Nat) (cB cI cJ cZ cP cQ : ClassId) (am : Nat → Nat) (sz : Nat) : Met l yX9_truthOf wsX9_truthOf ({ frames := 1, cells := 0, slots := 0, locals := 24 } : Room) (zPc [.ref (am 0), .int 0] (dC, dI) (zT cB cI cJ cZ cP cQ) [(am 0, .inr (9, mf0 am)), (am 25, .inl (cI, 5, .inl (fun _ => 0)))] sz [] []) (va_Ql (fun r _ => (fun r => r = (-2000000000)) r) (zB (dC, dI) (zT cB cI cJ cZ cP cQ) (fun _ : Unit => [(am 0, .inr (9, mf0 am)), (am 25, .inl (cI, 5, .inl (fun _ => 0)))]) [(am 0, .inr (9, mf0 am)), (am 25, .inl (cI, 5, .inl (fun _ => 0)))] sz) (va_A [(am 0, .inr (9, mf0 am)), (am 25, .inl (cI, 5, .inl (fun _ => 0)))] sz)) 0 0 (va_A [(am 0, .inr (9, mf0 am)), (am 25, .inl (cI, 5, .inl (fun _ => 0)))] sz) := by
  refine z_enter (cc := cX9_truthOf) (maxL := 7) (ret := (some .long)) (by decide) rfl (Nat.le_of_ble_eq_true rfl) ?_
  intro p e s m below meth c A ls Q H locs hx hb hr hml hown hts hlocks hin hK hP hD hA hX hS hAe hQ hl
  have hown : s.vm.findClass RX9 = some m.cls := hown
  have hi9 : ∀ w ∈ wsX90, w ∈ wsX9_truthOf := fun w h => List.mem_cons_of_mem _ (List.mem_append_right _ h)
  have hk0 := hts (.fieldLink RX9 89 "MonthPushModel" "sheets" "[I") (by decide +kernel)
  have hl : lv_has ls 7 [(0, .ref (am 0)), (1, .int 0)] := hl
  refine lv_lconst (v := 0) hx hb dX9_truthOf_0 (by decide) ?_
  refine lv_lstore_n (lv' := [(2, .long 0), (0, .ref (am 0)), (1, .int 0)]) hx hb dX9_truthOf_1 rfl hl (by decide) rfl (fun ls hl => ?_)
  refine lv_lconst (v := 0) hx hb dX9_truthOf_2 (by decide) ?_
  refine lv_lstore (lv' := [(4, .long 0), (2, .long 0), (0, .ref (am 0)), (1, .int 0)]) hx hb dX9_truthOf_3 hl (by decide) rfl (fun ls hl => ?_)
  refine lv_iconst (v := 0) hx hb dX9_truthOf_5 (by decide) ?_
  refine lv_istore (lv' := [(6, .int 0), (4, .long 0), (2, .long 0), (0, .ref (am 0)), (1, .int 0)]) hx hb dX9_truthOf_6 hl (by decide) rfl (fun ls hl => ?_)
  refine lv_iload hx hb dX9_truthOf_8 (lv_at hl 0 rfl) ?_
  refine lv_aload_n hx hb dX9_truthOf_10 rfl (lv_at hl 3 rfl) ?_
  refine va_get (D := (dC, dI)) (ci := 9) (v := .ref (am 25)) (C := RX9) (T := TX9) (N := 60) hx hb hts hi9 hown hK hP 0 rfl rfl 35 (by decide) hk0 (fun _ h9 => h9) rfl dX9_truthOf_11 ?_
  refine lv_iconst (v := 0) hx hb dX9_truthOf_14 (by decide) ?_
  refine va_iald hx hb hK hP 1 1 rfl rfl (z_in (a := 0) (by decide) (by decide) (by decide)) dX9_truthOf_15 ?_
  refine z_topi (y := 0) rfl ?_
  refine lv_icmp_ge (tgt := 71) hx hb dX9_truthOf_16 (by decide) (fun _ => ?_) (fun c => absurd (by decide) c)
  refine lv_aload_n hx hb dX9_truthOf_71 rfl (lv_at hl 3 rfl) ?_
  refine lv_lload_n hx hb dX9_truthOf_72 rfl (lv_at hl 2 rfl) ?_
  refine lv_lload hx hb dX9_truthOf_73 (lv_at hl 1 rfl) ?_
  refine z_finl (w' := fun (u1 : Unit) => [(am 0, .inr (9, mf0 am)), (am 25, .inl (cI, 5, .inl (fun _ => 0)))]) (va_runV (As := [.long 0, .long 0]) (rest := []) ⟨hx, hb, hml, hown, hts⟩ (c_X9_ratio_189 l dC dI cB cI cJ cZ cP cQ am H.size) (cwV 2 hts gX9_truthOf_X9_ratio rfl rfl rfl (by decide +kernel) ⟨Nat.le_of_ble_eq_true rfl, Nat.le_of_ble_eq_true rfl⟩) (z_pV (ci := 9) hK hP hD zX_nil [0] (by decide) rfl rfl 0 rfl) rfl rfl hl.1 rfl (lv_room (Nat.le_of_ble_eq_true rfl)) dX9_truthOf_75 ⟨Nat.le_of_ble_eq_true rfl, Nat.le_of_ble_eq_true rfl⟩) hP hD hS hA [0] [1] [1, 0] rfl rfl (by decide) (by decide) (fun _ => rfl) (by decide) (fun r2 u1 H locs hp3 hP hD hS => ?_)
  have hP : va_P (dC, dI) vwCl [(am 0, .inr (9, mf0 am)), (am 25, .inl (cI, 5, .inl (fun _ => 0)))] H := hP
  have hD : va_D A [(am 0, .inr (9, mf0 am)), (am 25, .inl (cI, 5, .inl (fun _ => 0)))] := hD
  refine W.widen (k := 0) (n := 0) (by decide) (by decide) ?_
  obtain rfl : r2 = (-2000000000) := hp3
  exact z_lret () hx hb hr hlocks hK hP hD hS hAe hQ rfl rfl dX9_truthOf_78
set_option maxHeartbeats 4000000 in
set_option maxRecDepth 100000 in
theorem c_X9_truth_235 (l : Launch) (dC : Nat → ClassId) (dI : Nat → Nat → Nat) (cB cI cJ cZ cP cQ : ClassId) (am : Nat → Nat) (sz : Nat) : Met l yX9_truth wsX9_truth ({ frames := 2, cells := 0, slots := 0, locals := 50 } : Room) (zPc [.ref (am 0), .int 0] (dC, dI) (zT cB cI cJ cZ cP cQ) [(am 0, .inr (9, mf0 am)), (am 25, .inl (cI, 5, .inl (fun _ => 0)))] sz [] []) (va_Ql (fun r _ => (fun r => r = (-2000000000)) r) (zB (dC, dI) (zT cB cI cJ cZ cP cQ) (fun _ : Unit => []) [(am 0, .inr (9, mf0 am)), (am 25, .inl (cI, 5, .inl (fun _ => 0)))] sz) (va_A [(am 0, .inr (9, mf0 am)), (am 25, .inl (cI, 5, .inl (fun _ => 0)))] sz)) 0 0 (va_A [(am 0, .inr (9, mf0 am)), (am 25, .inl (cI, 5, .inl (fun _ => 0)))] sz) := by
  refine z_enter (cc := cX9_truth) (maxL := 2) (ret := (some .long)) (by decide) rfl (Nat.le_of_ble_eq_true rfl) ?_
  intro p e s m below meth c A ls Q H locs hx hb hr hml hown hts hlocks hin hK hP hD hA hX hS hAe hQ hl
  have hown : s.vm.findClass RX9 = some m.cls := hown
  have hi9 : ∀ w ∈ wsX90, w ∈ wsX9_truth := fun w h => List.mem_cons_of_mem _ (List.mem_append_right _ h)
  have hk0 := hts (.fieldLink RX9 125 "MonthPushModel" "thrown" "I") (by decide +kernel)
  have hl : lv_has ls 2 [(0, .ref (am 0)), (1, .int 0)] := hl
  refine lv_aload_n hx hb dX9_truth_0 rfl (lv_at hl 0 rfl) ?_
  refine lv_iconst (v := 0) hx hb dX9_truth_1 (by decide) ?_
  refine z_put0 (D := (dC, dI)) (ci := 9) (v := .int 0) (ty := .int) (C := RX9) (T := TX9) (N := 60) hx hb hts hi9 tyX9 tyX9_ok nmX9 hown hK hP hD hS 0 rfl rfl 0 (by decide) hk0 (fun _ h9 => h9) rfl (by decide +kernel) rfl rfl rfl dX9_truth_2 (fun H locs hP hS => ?_)
  refine lv_aload_n hx hb dX9_truth_5 rfl (lv_at hl 0 rfl) ?_
  refine lv_iload_n hx hb dX9_truth_6 rfl (lv_at hl 1 rfl) ?_
  refine z_finl (w' := fun (u1 : Unit) => [(am 0, .inr (9, mf0 am)), (am 25, .inl (cI, 5, .inl (fun _ => 0)))]) (va_runV (As := [.int 0]) (rest := []) ⟨hx, hb, hml, hown, hts⟩ (c_X9_truthOf_235 l dC dI cB cI cJ cZ cP cQ am H.size) (cwV 1 hts gX9_truth_X9_truthOf rfl rfl rfl (by decide +kernel) ⟨Nat.le_of_ble_eq_true rfl, Nat.le_of_ble_eq_true rfl⟩) (z_pV (ci := 9) hK hP hD zX_nil [0, 1] (by decide) rfl rfl 0 rfl) rfl rfl hl.1 rfl (lv_room (Nat.le_of_ble_eq_true rfl)) dX9_truth_7 ⟨Nat.le_of_ble_eq_true rfl, Nat.le_of_ble_eq_true rfl⟩) hP hD hS hA [0, 1] [] [0, 1] rfl rfl (by decide) (by decide) (fun _ => rfl) (by decide) (fun r2 u1 H locs hp3 hP hD hS => ?_)
  have hP : va_P (dC, dI) vwCl [(am 0, .inr (9, mf0 am)), (am 25, .inl (cI, 5, .inl (fun _ => 0)))] H := hP
  have hD : va_D A [(am 0, .inr (9, mf0 am)), (am 25, .inl (cI, 5, .inl (fun _ => 0)))] := hD
  refine W.widen (k := 0) (n := 0) (by decide) (by decide) ?_
  obtain rfl : r2 = (-2000000000) := hp3
  have hP9 := hP.sub (ws' := []) [] rfl
  have hD9 := hD.sub (ws' := []) [] (by decide) rfl
  exact z_lret () hx hb hr hlocks hK hP9 hD9 hS hAe hQ rfl rfl dX9_truth_10
set_option maxHeartbeats 4000000 in
set_option maxRecDepth 100000 in
theorem c_X9_truthOf_237 (l : Launch) (dC : Nat → ClassId) (dI : Nat → Nat → Nat) (cB cI cJ cZ cP cQ : ClassId) (am : Nat → Nat) (sz : Nat) : Met l yX9_truthOf wsX9_truthOf ({ frames := 1, cells := 0, slots := 0, locals := 24 } : Room) (zPc [.ref (am 0), .int 1] (dC, dI) (zT cB cI cJ cZ cP cQ) [(am 0, .inr (9, mf0 am)), (am 25, .inl (cI, 5, .inl (fun _ => 0)))] sz [] []) (va_Ql (fun r _ => (fun r => r = (-2000000000)) r) (zB (dC, dI) (zT cB cI cJ cZ cP cQ) (fun _ : Unit => [(am 0, .inr (9, mf0 am)), (am 25, .inl (cI, 5, .inl (fun _ => 0)))]) [(am 0, .inr (9, mf0 am)), (am 25, .inl (cI, 5, .inl (fun _ => 0)))] sz) (va_A [(am 0, .inr (9, mf0 am)), (am 25, .inl (cI, 5, .inl (fun _ => 0)))] sz)) 0 0 (va_A [(am 0, .inr (9, mf0 am)), (am 25, .inl (cI, 5, .inl (fun _ => 0)))] sz) := by
  refine z_enter (cc := cX9_truthOf) (maxL := 7) (ret := (some .long)) (by decide) rfl (Nat.le_of_ble_eq_true rfl) ?_
  intro p e s m below meth c A ls Q H locs hx hb hr hml hown hts hlocks hin hK hP hD hA hX hS hAe hQ hl
  have hown : s.vm.findClass RX9 = some m.cls := hown
  have hi9 : ∀ w ∈ wsX90, w ∈ wsX9_truthOf := fun w h => List.mem_cons_of_mem _ (List.mem_append_right _ h)
  have hk0 := hts (.fieldLink RX9 89 "MonthPushModel" "sheets" "[I") (by decide +kernel)
  have hl : lv_has ls 7 [(0, .ref (am 0)), (1, .int 1)] := hl
  refine lv_lconst (v := 0) hx hb dX9_truthOf_0 (by decide) ?_
  refine lv_lstore_n (lv' := [(2, .long 0), (0, .ref (am 0)), (1, .int 1)]) hx hb dX9_truthOf_1 rfl hl (by decide) rfl (fun ls hl => ?_)
  refine lv_lconst (v := 0) hx hb dX9_truthOf_2 (by decide) ?_
  refine lv_lstore (lv' := [(4, .long 0), (2, .long 0), (0, .ref (am 0)), (1, .int 1)]) hx hb dX9_truthOf_3 hl (by decide) rfl (fun ls hl => ?_)
  refine lv_iconst (v := 0) hx hb dX9_truthOf_5 (by decide) ?_
  refine lv_istore (lv' := [(6, .int 0), (4, .long 0), (2, .long 0), (0, .ref (am 0)), (1, .int 1)]) hx hb dX9_truthOf_6 hl (by decide) rfl (fun ls hl => ?_)
  refine lv_iload hx hb dX9_truthOf_8 (lv_at hl 0 rfl) ?_
  refine lv_aload_n hx hb dX9_truthOf_10 rfl (lv_at hl 3 rfl) ?_
  refine va_get (D := (dC, dI)) (ci := 9) (v := .ref (am 25)) (C := RX9) (T := TX9) (N := 60) hx hb hts hi9 hown hK hP 0 rfl rfl 35 (by decide) hk0 (fun _ h9 => h9) rfl dX9_truthOf_11 ?_
  refine lv_iconst (v := 0) hx hb dX9_truthOf_14 (by decide) ?_
  refine va_iald hx hb hK hP 1 1 rfl rfl (z_in (a := 0) (by decide) (by decide) (by decide)) dX9_truthOf_15 ?_
  refine z_topi (y := 0) rfl ?_
  refine lv_icmp_ge (tgt := 71) hx hb dX9_truthOf_16 (by decide) (fun _ => ?_) (fun c => absurd (by decide) c)
  refine lv_aload_n hx hb dX9_truthOf_71 rfl (lv_at hl 3 rfl) ?_
  refine lv_lload_n hx hb dX9_truthOf_72 rfl (lv_at hl 2 rfl) ?_
  refine lv_lload hx hb dX9_truthOf_73 (lv_at hl 1 rfl) ?_
  refine z_finl (w' := fun (u1 : Unit) => [(am 0, .inr (9, mf0 am)), (am 25, .inl (cI, 5, .inl (fun _ => 0)))]) (va_runV (As := [.long 0, .long 0]) (rest := []) ⟨hx, hb, hml, hown, hts⟩ (c_X9_ratio_189 l dC dI cB cI cJ cZ cP cQ am H.size) (cwV 2 hts gX9_truthOf_X9_ratio rfl rfl rfl (by decide +kernel) ⟨Nat.le_of_ble_eq_true rfl, Nat.le_of_ble_eq_true rfl⟩) (z_pV (ci := 9) hK hP hD zX_nil [0] (by decide) rfl rfl 0 rfl) rfl rfl hl.1 rfl (lv_room (Nat.le_of_ble_eq_true rfl)) dX9_truthOf_75 ⟨Nat.le_of_ble_eq_true rfl, Nat.le_of_ble_eq_true rfl⟩) hP hD hS hA [0] [1] [1, 0] rfl rfl (by decide) (by decide) (fun _ => rfl) (by decide) (fun r2 u1 H locs hp3 hP hD hS => ?_)
  have hP : va_P (dC, dI) vwCl [(am 0, .inr (9, mf0 am)), (am 25, .inl (cI, 5, .inl (fun _ => 0)))] H := hP
  have hD : va_D A [(am 0, .inr (9, mf0 am)), (am 25, .inl (cI, 5, .inl (fun _ => 0)))] := hD
  refine W.widen (k := 0) (n := 0) (by decide) (by decide) ?_
  obtain rfl : r2 = (-2000000000) := hp3
  exact z_lret () hx hb hr hlocks hK hP hD hS hAe hQ rfl rfl dX9_truthOf_78
set_option maxHeartbeats 4000000 in
set_option maxRecDepth 100000 in
theorem c_X9_truth_237 (l : Launch) (dC : Nat → ClassId) (dI : Nat → Nat → Nat) (cB cI cJ cZ cP cQ : ClassId) (am : Nat → Nat) (sz : Nat) : Met l yX9_truth wsX9_truth ({ frames := 2, cells := 0, slots := 0, locals := 50 } : Room) (zPc [.ref (am 0), .int 1] (dC, dI) (zT cB cI cJ cZ cP cQ) [(am 0, .inr (9, mf0 am)), (am 25, .inl (cI, 5, .inl (fun _ => 0)))] sz [] []) (va_Ql (fun r _ => (fun r => r = (-2000000000)) r) (zB (dC, dI) (zT cB cI cJ cZ cP cQ) (fun _ : Unit => []) [(am 0, .inr (9, mf0 am)), (am 25, .inl (cI, 5, .inl (fun _ => 0)))] sz) (va_A [(am 0, .inr (9, mf0 am)), (am 25, .inl (cI, 5, .inl (fun _ => 0)))] sz)) 0 0 (va_A [(am 0, .inr (9, mf0 am)), (am 25, .inl (cI, 5, .inl (fun _ => 0)))] sz) := by
  refine z_enter (cc := cX9_truth) (maxL := 2) (ret := (some .long)) (by decide) rfl (Nat.le_of_ble_eq_true rfl) ?_
  intro p e s m below meth c A ls Q H locs hx hb hr hml hown hts hlocks hin hK hP hD hA hX hS hAe hQ hl
  have hown : s.vm.findClass RX9 = some m.cls := hown
  have hi9 : ∀ w ∈ wsX90, w ∈ wsX9_truth := fun w h => List.mem_cons_of_mem _ (List.mem_append_right _ h)
  have hk0 := hts (.fieldLink RX9 125 "MonthPushModel" "thrown" "I") (by decide +kernel)
  have hl : lv_has ls 2 [(0, .ref (am 0)), (1, .int 1)] := hl
  refine lv_aload_n hx hb dX9_truth_0 rfl (lv_at hl 0 rfl) ?_
  refine lv_iconst (v := 0) hx hb dX9_truth_1 (by decide) ?_
  refine z_put0 (D := (dC, dI)) (ci := 9) (v := .int 0) (ty := .int) (C := RX9) (T := TX9) (N := 60) hx hb hts hi9 tyX9 tyX9_ok nmX9 hown hK hP hD hS 0 rfl rfl 0 (by decide) hk0 (fun _ h9 => h9) rfl (by decide +kernel) rfl rfl rfl dX9_truth_2 (fun H locs hP hS => ?_)
  refine lv_aload_n hx hb dX9_truth_5 rfl (lv_at hl 0 rfl) ?_
  refine lv_iload_n hx hb dX9_truth_6 rfl (lv_at hl 1 rfl) ?_
  refine z_finl (w' := fun (u1 : Unit) => [(am 0, .inr (9, mf0 am)), (am 25, .inl (cI, 5, .inl (fun _ => 0)))]) (va_runV (As := [.int 1]) (rest := []) ⟨hx, hb, hml, hown, hts⟩ (c_X9_truthOf_237 l dC dI cB cI cJ cZ cP cQ am H.size) (cwV 1 hts gX9_truth_X9_truthOf rfl rfl rfl (by decide +kernel) ⟨Nat.le_of_ble_eq_true rfl, Nat.le_of_ble_eq_true rfl⟩) (z_pV (ci := 9) hK hP hD zX_nil [0, 1] (by decide) rfl rfl 0 rfl) rfl rfl hl.1 rfl (lv_room (Nat.le_of_ble_eq_true rfl)) dX9_truth_7 ⟨Nat.le_of_ble_eq_true rfl, Nat.le_of_ble_eq_true rfl⟩) hP hD hS hA [0, 1] [] [0, 1] rfl rfl (by decide) (by decide) (fun _ => rfl) (by decide) (fun r2 u1 H locs hp3 hP hD hS => ?_)
  have hP : va_P (dC, dI) vwCl [(am 0, .inr (9, mf0 am)), (am 25, .inl (cI, 5, .inl (fun _ => 0)))] H := hP
  have hD : va_D A [(am 0, .inr (9, mf0 am)), (am 25, .inl (cI, 5, .inl (fun _ => 0)))] := hD
  refine W.widen (k := 0) (n := 0) (by decide) (by decide) ?_
  obtain rfl : r2 = (-2000000000) := hp3
  have hP9 := hP.sub (ws' := []) [] rfl
  have hD9 := hD.sub (ws' := []) [] (by decide) rfl
  exact z_lret () hx hb hr hlocks hK hP9 hD9 hS hAe hQ rfl rfl dX9_truth_10
set_option maxHeartbeats 4000000 in
set_option maxRecDepth 100000 in
theorem c_X9_leansBy_239 (l : Launch) (dC : Nat → ClassId) (dI : Nat → Nat → Nat) (cB cI cJ cZ cP cQ : ClassId) (am : Nat → Nat) (sz : Nat) (p1 : Int32) (p2 : Int32) : Met l yX9_leansBy wsX9_leansBy ({ frames := 3, cells := 0, slots := 0, locals := 66 } : Room) (zPc [.ref (am 0), .int p1, .int p2] (dC, dI) (zT cB cI cJ cZ cP cQ) [(am 0, .inr (9, mf0 am)), (am 25, .inl (cI, 5, .inl (fun _ => 0))), (am 33, .inl (cJ, 72, .inr (.inl (fun _ => 0)))), (am 34, .inl (cJ, 72, .inr (.inl (fun _ => 0)))), (am 35, .inl (cJ, 72, .inr (.inl (fun _ => 0))))] sz [] []) (va_Ql (fun r _ => (fun r => (r = (-2000000000) ∧ ¬ p1.toInt = 0 ∧ ¬ p1.toInt = 1) ∨ (r = (-2000000000) ∧ ¬ p1.toInt = 0 ∧ p1.toInt = 1 ∧ p2.toInt < 1) ∨ (r = (-2000000000) ∧ ¬ p1.toInt = 0 ∧ p1.toInt = 1 ∧ 1 ≤ p2.toInt ∧ 4094 < p2.toInt) ∨ (r = (-2000000000) ∧ ¬ p1.toInt = 0 ∧ p1.toInt = 1 ∧ 1 ≤ p2.toInt ∧ p2.toInt ≤ 4094) ∨ (r = (-2000000000) ∧ p1.toInt = 0)) r) (zB (dC, dI) (zT cB cI cJ cZ cP cQ) (fun _ : Unit => [(am 0, .inr (9, mf0 am)), (am 25, .inl (cI, 5, .inl (fun _ => 0))), (am 33, .inl (cJ, 72, .inr (.inl (fun _ => 0)))), (am 34, .inl (cJ, 72, .inr (.inl (fun _ => 0)))), (am 35, .inl (cJ, 72, .inr (.inl (fun _ => 0))))]) [(am 0, .inr (9, mf0 am)), (am 25, .inl (cI, 5, .inl (fun _ => 0))), (am 33, .inl (cJ, 72, .inr (.inl (fun _ => 0)))), (am 34, .inl (cJ, 72, .inr (.inl (fun _ => 0)))), (am 35, .inl (cJ, 72, .inr (.inl (fun _ => 0))))] sz) (va_A [(am 0, .inr (9, mf0 am)), (am 25, .inl (cI, 5, .inl (fun _ => 0))), (am 33, .inl (cJ, 72, .inr (.inl (fun _ => 0)))), (am 34, .inl (cJ, 72, .inr (.inl (fun _ => 0)))), (am 35, .inl (cJ, 72, .inr (.inl (fun _ => 0))))] sz)) 0 0 (va_A [(am 0, .inr (9, mf0 am)), (am 25, .inl (cI, 5, .inl (fun _ => 0))), (am 33, .inl (cJ, 72, .inr (.inl (fun _ => 0)))), (am 34, .inl (cJ, 72, .inr (.inl (fun _ => 0)))), (am 35, .inl (cJ, 72, .inr (.inl (fun _ => 0))))] sz) := by
  refine z_enter (cc := cX9_leansBy) (maxL := 7) (ret := (some .long)) (by decide) rfl (Nat.le_of_ble_eq_true rfl) ?_
  intro p e s m below meth c A ls Q H locs hx hb hr hml hown hts hlocks hin hK hP hD hA hX hS hAe hQ hl
  have hown : s.vm.findClass RX9 = some m.cls := hown
  have hi9 : ∀ w ∈ wsX90, w ∈ wsX9_leansBy := fun w h => List.mem_cons_of_mem _ (List.mem_append_right _ h)
  have hk0 := hts (.fieldLink RX9 402 "MonthPushModel" "isTold" "Z") (by decide +kernel)
  have hk1 := hts (.constantLong RX9 408 (-2000000000)) (by decide +kernel)
  have hl : lv_has ls 7 [(0, .ref (am 0)), (1, .int p1), (2, .int p2)] := hl
  refine lv_iload_n hx hb dX9_leansBy_0 rfl (lv_at hl 1 rfl) ?_
  refine lv_if_ne (tgt := 11) hx hb dX9_leansBy_1 (by decide) (fun c_1 => ?_) (fun c_1 => ?_)
  · have f2 : ¬ p1.toInt = 0 := z_ne rfl (by decide) c_1
    refine lv_iload_n hx hb dX9_leansBy_11 rfl (lv_at hl 1 rfl) ?_
    refine lv_iconst (v := 1) hx hb dX9_leansBy_12 (by decide) ?_
    refine lv_icmp_ne (tgt := 24) hx hb dX9_leansBy_13 (by decide) (fun c_3 => ?_) (fun c_3 => ?_)
    · have f4 : ¬ p1.toInt = 1 := z_ne rfl (by decide) c_3
      refine lv_aload_n hx hb dX9_leansBy_24 rfl (lv_at hl 0 rfl) ?_
      refine z_finl (w' := fun (u5 : Unit) => [(am 0, .inr (9, mf0 am)), (am 25, .inl (cI, 5, .inl (fun _ => 0))), (am 33, .inl (cJ, 72, .inr (.inl (fun _ => 0)))), (am 34, .inl (cJ, 72, .inr (.inl (fun _ => 0)))), (am 35, .inl (cJ, 72, .inr (.inl (fun _ => 0))))]) (va_runV (As := []) (rest := []) ⟨hx, hb, hml, hown, hts⟩ (c_X9_manyOf_200 l dC dI cB cI cJ cZ cP cQ am H.size) (cwV 0 hts gX9_leansBy_X9_manyOf rfl rfl rfl (by decide +kernel) ⟨Nat.le_of_ble_eq_true rfl, Nat.le_of_ble_eq_true rfl⟩) (z_pV (ci := 9) hK hP hD zX_nil [0, 1, 2, 3, 4] (by decide) rfl rfl 0 rfl) rfl rfl hl.1 rfl (lv_room (Nat.le_of_ble_eq_true rfl)) dX9_leansBy_25 ⟨Nat.le_of_ble_eq_true rfl, Nat.le_of_ble_eq_true rfl⟩) hP hD hS hA [0, 1, 2, 3, 4] [] [0, 1, 2, 3, 4] rfl rfl (by decide) (by decide) (fun _ => rfl) (by decide) (fun r6 u5 H locs hp7 hP hD hS => ?_)
      have hP : va_P (dC, dI) vwCl [(am 0, .inr (9, mf0 am)), (am 25, .inl (cI, 5, .inl (fun _ => 0))), (am 33, .inl (cJ, 72, .inr (.inl (fun _ => 0)))), (am 34, .inl (cJ, 72, .inr (.inl (fun _ => 0)))), (am 35, .inl (cJ, 72, .inr (.inl (fun _ => 0))))] H := hP
      have hD : va_D A [(am 0, .inr (9, mf0 am)), (am 25, .inl (cI, 5, .inl (fun _ => 0))), (am 33, .inl (cJ, 72, .inr (.inl (fun _ => 0)))), (am 34, .inl (cJ, 72, .inr (.inl (fun _ => 0)))), (am 35, .inl (cJ, 72, .inr (.inl (fun _ => 0))))] := hD
      refine W.widen (k := 0) (n := 0) (by decide) (by decide) ?_
      obtain rfl : r6 = (-2000000000) := hp7
      refine lv_lstore_n (lv' := [(3, .long (-2000000000)), (0, .ref (am 0)), (1, .int p1), (2, .int p2)]) hx hb dX9_leansBy_28 rfl hl (by decide) rfl (fun ls hl => ?_)
      refine lv_aload_n hx hb dX9_leansBy_29 rfl (lv_at hl 1 rfl) ?_
      refine va_get (D := (dC, dI)) (ci := 9) (v := .int 0) (C := RX9) (T := TX9) (N := 60) hx hb hts hi9 hown hK hP 0 rfl rfl 53 (by decide) hk0 (fun _ h9 => h9) rfl dX9_leansBy_30 ?_
      refine lv_if_ne (tgt := 40) hx hb dX9_leansBy_33 (by decide) (fun c => absurd (by decide) c) (fun _ => ?_)
      refine lv_ldc2 hx hb hown hk1 dX9_leansBy_36 ?_
      exact z_lret () hx hb hr hlocks hK hP hD hS hAe hQ rfl (Or.inl (⟨rfl, f2, f4⟩)) dX9_leansBy_39
    · have f4 : p1.toInt = 1 := z_eq rfl (by decide) c_3
      refine lv_aload_n hx hb dX9_leansBy_16 rfl (lv_at hl 0 rfl) ?_
      refine lv_iload_n hx hb dX9_leansBy_17 rfl (lv_at hl 2 rfl) ?_
      refine z_finl (w' := fun (u8 : Unit) => [(am 0, .inr (9, mf0 am)), (am 25, .inl (cI, 5, .inl (fun _ => 0))), (am 33, .inl (cJ, 72, .inr (.inl (fun _ => 0)))), (am 34, .inl (cJ, 72, .inr (.inl (fun _ => 0)))), (am 35, .inl (cJ, 72, .inr (.inl (fun _ => 0))))]) (va_runV (As := [.int p2]) (rest := []) ⟨hx, hb, hml, hown, hts⟩ (c_X9_byOf_197 l dC dI cB cI cJ cZ cP cQ am H.size p2) (cwV 1 hts gX9_leansBy_X9_byOf rfl rfl rfl (by decide +kernel) ⟨Nat.le_of_ble_eq_true rfl, Nat.le_of_ble_eq_true rfl⟩) (z_pV (ci := 9) hK hP hD zX_nil [0, 1] (by decide) rfl rfl 0 rfl) rfl rfl hl.1 rfl (lv_room (Nat.le_of_ble_eq_true rfl)) dX9_leansBy_18 ⟨Nat.le_of_ble_eq_true rfl, Nat.le_of_ble_eq_true rfl⟩) hP hD hS hA [0, 1] [2, 3, 4] [3, 4, 0, 1, 2] rfl rfl (by decide) (by decide) (fun _ => rfl) (by decide) (fun r9 u8 H locs hp10 hP hD hS => ?_)
      have hP : va_P (dC, dI) vwCl [(am 0, .inr (9, mf0 am)), (am 25, .inl (cI, 5, .inl (fun _ => 0))), (am 33, .inl (cJ, 72, .inr (.inl (fun _ => 0)))), (am 34, .inl (cJ, 72, .inr (.inl (fun _ => 0)))), (am 35, .inl (cJ, 72, .inr (.inl (fun _ => 0))))] H := hP
      have hD : va_D A [(am 0, .inr (9, mf0 am)), (am 25, .inl (cI, 5, .inl (fun _ => 0))), (am 33, .inl (cJ, 72, .inr (.inl (fun _ => 0)))), (am 34, .inl (cJ, 72, .inr (.inl (fun _ => 0)))), (am 35, .inl (cJ, 72, .inr (.inl (fun _ => 0))))] := hD
      refine W.widen (k := 0) (n := 0) (by decide) (by decide) ?_
      rcases hp10 with ⟨rfl, f11⟩ | ⟨rfl, f12, f13⟩ | ⟨rfl, f14, f15⟩
      · refine lv_goto (tgt := 28) hx hb dX9_leansBy_21 (by decide) ?_
        refine lv_lstore_n (lv' := [(3, .long (-2000000000)), (0, .ref (am 0)), (1, .int p1), (2, .int p2)]) hx hb dX9_leansBy_28 rfl hl (by decide) rfl (fun ls hl => ?_)
        refine lv_aload_n hx hb dX9_leansBy_29 rfl (lv_at hl 1 rfl) ?_
        refine va_get (D := (dC, dI)) (ci := 9) (v := .int 0) (C := RX9) (T := TX9) (N := 60) hx hb hts hi9 hown hK hP 0 rfl rfl 53 (by decide) hk0 (fun _ h9 => h9) rfl dX9_leansBy_30 ?_
        refine lv_if_ne (tgt := 40) hx hb dX9_leansBy_33 (by decide) (fun c => absurd (by decide) c) (fun _ => ?_)
        refine lv_ldc2 hx hb hown hk1 dX9_leansBy_36 ?_
        exact z_lret () hx hb hr hlocks hK hP hD hS hAe hQ rfl (Or.inr (Or.inl ⟨rfl, f2, f4, f11⟩)) dX9_leansBy_39
      · refine lv_goto (tgt := 28) hx hb dX9_leansBy_21 (by decide) ?_
        refine lv_lstore_n (lv' := [(3, .long (-2000000000)), (0, .ref (am 0)), (1, .int p1), (2, .int p2)]) hx hb dX9_leansBy_28 rfl hl (by decide) rfl (fun ls hl => ?_)
        refine lv_aload_n hx hb dX9_leansBy_29 rfl (lv_at hl 1 rfl) ?_
        refine va_get (D := (dC, dI)) (ci := 9) (v := .int 0) (C := RX9) (T := TX9) (N := 60) hx hb hts hi9 hown hK hP 0 rfl rfl 53 (by decide) hk0 (fun _ h9 => h9) rfl dX9_leansBy_30 ?_
        refine lv_if_ne (tgt := 40) hx hb dX9_leansBy_33 (by decide) (fun c => absurd (by decide) c) (fun _ => ?_)
        refine lv_ldc2 hx hb hown hk1 dX9_leansBy_36 ?_
        exact z_lret () hx hb hr hlocks hK hP hD hS hAe hQ rfl (Or.inr (Or.inr (Or.inl ⟨rfl, f2, f4, f12, f13⟩))) dX9_leansBy_39
      · refine lv_goto (tgt := 28) hx hb dX9_leansBy_21 (by decide) ?_
        refine lv_lstore_n (lv' := [(3, .long (-2000000000)), (0, .ref (am 0)), (1, .int p1), (2, .int p2)]) hx hb dX9_leansBy_28 rfl hl (by decide) rfl (fun ls hl => ?_)
        refine lv_aload_n hx hb dX9_leansBy_29 rfl (lv_at hl 1 rfl) ?_
        refine va_get (D := (dC, dI)) (ci := 9) (v := .int 0) (C := RX9) (T := TX9) (N := 60) hx hb hts hi9 hown hK hP 0 rfl rfl 53 (by decide) hk0 (fun _ h9 => h9) rfl dX9_leansBy_30 ?_
        refine lv_if_ne (tgt := 40) hx hb dX9_leansBy_33 (by decide) (fun c => absurd (by decide) c) (fun _ => ?_)
        refine lv_ldc2 hx hb hown hk1 dX9_leansBy_36 ?_
        exact z_lret () hx hb hr hlocks hK hP hD hS hAe hQ rfl (Or.inr (Or.inr (Or.inr (Or.inl ⟨rfl, f2, f4, f14, f15⟩)))) dX9_leansBy_39
  · have f2 : p1.toInt = 0 := z_eq rfl (by decide) c_1
    refine lv_aload_n hx hb dX9_leansBy_4 rfl (lv_at hl 0 rfl) ?_
    refine z_finl (w' := fun (u16 : Unit) => [(am 0, .inr (9, mf0 am)), (am 25, .inl (cI, 5, .inl (fun _ => 0))), (am 33, .inl (cJ, 72, .inr (.inl (fun _ => 0)))), (am 34, .inl (cJ, 72, .inr (.inl (fun _ => 0)))), (am 35, .inl (cJ, 72, .inr (.inl (fun _ => 0))))]) (va_runV (As := []) (rest := []) ⟨hx, hb, hml, hown, hts⟩ (c_X9_plainOf_189 l dC dI cB cI cJ cZ cP cQ am H.size) (cwV 0 hts gX9_leansBy_X9_plainOf rfl rfl rfl (by decide +kernel) ⟨Nat.le_of_ble_eq_true rfl, Nat.le_of_ble_eq_true rfl⟩) (z_pV (ci := 9) hK hP hD zX_nil [0, 1] (by decide) rfl rfl 0 rfl) rfl rfl hl.1 rfl (lv_room (Nat.le_of_ble_eq_true rfl)) dX9_leansBy_5 ⟨Nat.le_of_ble_eq_true rfl, Nat.le_of_ble_eq_true rfl⟩) hP hD hS hA [0, 1] [2, 3, 4] [3, 4, 0, 1, 2] rfl rfl (by decide) (by decide) (fun _ => rfl) (by decide) (fun r17 u16 H locs hp18 hP hD hS => ?_)
    have hP : va_P (dC, dI) vwCl [(am 0, .inr (9, mf0 am)), (am 25, .inl (cI, 5, .inl (fun _ => 0))), (am 33, .inl (cJ, 72, .inr (.inl (fun _ => 0)))), (am 34, .inl (cJ, 72, .inr (.inl (fun _ => 0)))), (am 35, .inl (cJ, 72, .inr (.inl (fun _ => 0))))] H := hP
    have hD : va_D A [(am 0, .inr (9, mf0 am)), (am 25, .inl (cI, 5, .inl (fun _ => 0))), (am 33, .inl (cJ, 72, .inr (.inl (fun _ => 0)))), (am 34, .inl (cJ, 72, .inr (.inl (fun _ => 0)))), (am 35, .inl (cJ, 72, .inr (.inl (fun _ => 0))))] := hD
    refine W.widen (k := 0) (n := 0) (by decide) (by decide) ?_
    obtain rfl : r17 = (-2000000000) := hp18
    refine lv_goto (tgt := 28) hx hb dX9_leansBy_8 (by decide) ?_
    refine lv_lstore_n (lv' := [(3, .long (-2000000000)), (0, .ref (am 0)), (1, .int p1), (2, .int p2)]) hx hb dX9_leansBy_28 rfl hl (by decide) rfl (fun ls hl => ?_)
    refine lv_aload_n hx hb dX9_leansBy_29 rfl (lv_at hl 1 rfl) ?_
    refine va_get (D := (dC, dI)) (ci := 9) (v := .int 0) (C := RX9) (T := TX9) (N := 60) hx hb hts hi9 hown hK hP 0 rfl rfl 53 (by decide) hk0 (fun _ h9 => h9) rfl dX9_leansBy_30 ?_
    refine lv_if_ne (tgt := 40) hx hb dX9_leansBy_33 (by decide) (fun c => absurd (by decide) c) (fun _ => ?_)
    refine lv_ldc2 hx hb hown hk1 dX9_leansBy_36 ?_
    exact z_lret () hx hb hr hlocks hK hP hD hS hAe hQ rfl (Or.inr (Or.inr (Or.inr (Or.inr ⟨rfl, f2⟩)))) dX9_leansBy_39
set_option maxHeartbeats 4000000 in
set_option maxRecDepth 100000 in
theorem c_X9_leans_239 (l : Launch) (dC : Nat → ClassId) (dI : Nat → Nat → Nat) (cB cI cJ cZ cP cQ : ClassId) (am : Nat → Nat) (sz : Nat) (p1 : Int32) (p2 : Int32) : Met l yX9_leans wsX9_leans ({ frames := 4, cells := 0, slots := 0, locals := 92 } : Room) (zPc [.ref (am 0), .int p1, .int p2] (dC, dI) (zT cB cI cJ cZ cP cQ) [(am 0, .inr (9, mf0 am)), (am 25, .inl (cI, 5, .inl (fun _ => 0))), (am 33, .inl (cJ, 72, .inr (.inl (fun _ => 0)))), (am 34, .inl (cJ, 72, .inr (.inl (fun _ => 0)))), (am 35, .inl (cJ, 72, .inr (.inl (fun _ => 0))))] sz [] []) (va_Ql (fun r _ => (fun r => (r = (-2000000000) ∧ p1.toInt < 0) ∨ (r = (-2000000000) ∧ 0 ≤ p1.toInt ∧ 2 < p1.toInt) ∨ (r = (-2000000000) ∧ 0 ≤ p1.toInt ∧ p1.toInt ≤ 2 ∧ ¬ p1.toInt = 0 ∧ ¬ p1.toInt = 1) ∨ (r = (-2000000000) ∧ 0 ≤ p1.toInt ∧ p1.toInt ≤ 2 ∧ ¬ p1.toInt = 0 ∧ p1.toInt = 1 ∧ p2.toInt < 1) ∨ (r = (-2000000000) ∧ 0 ≤ p1.toInt ∧ p1.toInt ≤ 2 ∧ ¬ p1.toInt = 0 ∧ p1.toInt = 1 ∧ 1 ≤ p2.toInt ∧ 4094 < p2.toInt) ∨ (r = (-2000000000) ∧ 0 ≤ p1.toInt ∧ p1.toInt ≤ 2 ∧ ¬ p1.toInt = 0 ∧ p1.toInt = 1 ∧ 1 ≤ p2.toInt ∧ p2.toInt ≤ 4094) ∨ (r = (-2000000000) ∧ 0 ≤ p1.toInt ∧ p1.toInt ≤ 2 ∧ p1.toInt = 0)) r) (zB (dC, dI) (zT cB cI cJ cZ cP cQ) (fun _ : Unit => []) [(am 0, .inr (9, mf0 am)), (am 25, .inl (cI, 5, .inl (fun _ => 0))), (am 33, .inl (cJ, 72, .inr (.inl (fun _ => 0)))), (am 34, .inl (cJ, 72, .inr (.inl (fun _ => 0)))), (am 35, .inl (cJ, 72, .inr (.inl (fun _ => 0))))] sz) (va_A [(am 0, .inr (9, mf0 am)), (am 25, .inl (cI, 5, .inl (fun _ => 0))), (am 33, .inl (cJ, 72, .inr (.inl (fun _ => 0)))), (am 34, .inl (cJ, 72, .inr (.inl (fun _ => 0)))), (am 35, .inl (cJ, 72, .inr (.inl (fun _ => 0))))] sz)) 0 0 (va_A [(am 0, .inr (9, mf0 am)), (am 25, .inl (cI, 5, .inl (fun _ => 0))), (am 33, .inl (cJ, 72, .inr (.inl (fun _ => 0)))), (am 34, .inl (cJ, 72, .inr (.inl (fun _ => 0)))), (am 35, .inl (cJ, 72, .inr (.inl (fun _ => 0))))] sz) := by
  refine z_enter (cc := cX9_leans) (maxL := 3) (ret := (some .long)) (by decide) rfl (Nat.le_of_ble_eq_true rfl) ?_
  intro p e s m below meth c A ls Q H locs hx hb hr hml hown hts hlocks hin hK hP hD hA hX hS hAe hQ hl
  have hown : s.vm.findClass RX9 = some m.cls := hown
  have hi9 : ∀ w ∈ wsX90, w ∈ wsX9_leans := fun w h => List.mem_cons_of_mem _ (List.mem_append_right _ h)
  have hk0 := hts (.fieldLink RX9 125 "MonthPushModel" "thrown" "I") (by decide +kernel)
  have hk1 := hts (.constantLong RX9 455 2) (by decide +kernel)
  have hk2 := hts (.constantLong RX9 408 (-2000000000)) (by decide +kernel)
  have hl : lv_has ls 3 [(0, .ref (am 0)), (1, .int p1), (2, .int p2)] := hl
  refine lv_aload_n hx hb dX9_leans_0 rfl (lv_at hl 0 rfl) ?_
  refine lv_iconst (v := 0) hx hb dX9_leans_1 (by decide) ?_
  refine z_put0 (D := (dC, dI)) (ci := 9) (v := .int 0) (ty := .int) (C := RX9) (T := TX9) (N := 60) hx hb hts hi9 tyX9 tyX9_ok nmX9 hown hK hP hD hS 0 rfl rfl 0 (by decide) hk0 (fun _ h9 => h9) rfl (by decide +kernel) rfl rfl rfl dX9_leans_2 (fun H locs hP hS => ?_)
  refine lv_iload_n hx hb dX9_leans_5 rfl (lv_at hl 1 rfl) ?_
  refine lv_i2l hx hb dX9_leans_6 rfl ?_
  refine lv_lconst (v := 0) hx hb dX9_leans_7 (by decide) ?_
  refine lv_ldc2 hx hb hown hk1 dX9_leans_8 ?_
  refine z_fini (w' := fun (u1 : Unit) => [(am 0, .inr (9, mf0 am)), (am 25, .inl (cI, 5, .inl (fun _ => 0))), (am 33, .inl (cJ, 72, .inr (.inl (fun _ => 0)))), (am 34, .inl (cJ, 72, .inr (.inl (fun _ => 0)))), (am 35, .inl (cJ, 72, .inr (.inl (fun _ => 0))))]) (va_runS (As := [.long p1.toInt64, .long 0, .long 2]) (rest := []) ⟨hx, hb, hml, hown, hts⟩ (c_X9_in_222 l dC dI cB cI cJ cZ cP cQ H.size p1) (va_cwS 3 hts gX9_leans_X9_in rfl rfl rfl (by decide +kernel) ⟨Nat.le_of_ble_eq_true rfl, Nat.le_of_ble_eq_true rfl⟩) (z_pS hK hP hD zX_nil [] (by decide) rfl) rfl rfl hl.1 rfl (lv_room (Nat.le_of_ble_eq_true rfl)) dX9_leans_11 ⟨Nat.le_of_ble_eq_true rfl, Nat.le_of_ble_eq_true rfl⟩) hP hD hS hA [] [0, 1, 2, 3, 4] [0, 1, 2, 3, 4] rfl rfl (by decide) (by decide) (fun _ => rfl) (by decide) (fun r2 u1 H locs hp3 hP hD hS => ?_)
  have hP : va_P (dC, dI) vwCl [(am 0, .inr (9, mf0 am)), (am 25, .inl (cI, 5, .inl (fun _ => 0))), (am 33, .inl (cJ, 72, .inr (.inl (fun _ => 0)))), (am 34, .inl (cJ, 72, .inr (.inl (fun _ => 0)))), (am 35, .inl (cJ, 72, .inr (.inl (fun _ => 0))))] H := hP
  have hD : va_D A [(am 0, .inr (9, mf0 am)), (am 25, .inl (cI, 5, .inl (fun _ => 0))), (am 33, .inl (cJ, 72, .inr (.inl (fun _ => 0)))), (am 34, .inl (cJ, 72, .inr (.inl (fun _ => 0)))), (am 35, .inl (cJ, 72, .inr (.inl (fun _ => 0))))] := hD
  refine W.widen (k := 0) (n := 0) (by decide) (by decide) ?_
  rcases hp3 with ⟨rfl, f4⟩ | ⟨rfl, f5, f6⟩ | ⟨rfl, f7, f8⟩
  · refine lv_if_eq (tgt := 26) hx hb dX9_leans_14 (by decide) (fun _ => ?_) (fun c => absurd (by decide) c)
    refine lv_ldc2 hx hb hown hk2 dX9_leans_26 ?_
    have hP9 := hP.sub (ws' := []) [] rfl
    have hD9 := hD.sub (ws' := []) [] (by decide) rfl
    exact z_lret () hx hb hr hlocks hK hP9 hD9 hS hAe hQ rfl (Or.inl (⟨rfl, f4⟩)) dX9_leans_29
  · refine lv_if_eq (tgt := 26) hx hb dX9_leans_14 (by decide) (fun _ => ?_) (fun c => absurd (by decide) c)
    refine lv_ldc2 hx hb hown hk2 dX9_leans_26 ?_
    have hP9 := hP.sub (ws' := []) [] rfl
    have hD9 := hD.sub (ws' := []) [] (by decide) rfl
    exact z_lret () hx hb hr hlocks hK hP9 hD9 hS hAe hQ rfl (Or.inr (Or.inl ⟨rfl, f5, f6⟩)) dX9_leans_29
  · refine lv_if_eq (tgt := 26) hx hb dX9_leans_14 (by decide) (fun c => absurd c (by decide)) (fun _ => ?_)
    refine lv_aload_n hx hb dX9_leans_17 rfl (lv_at hl 0 rfl) ?_
    refine lv_iload_n hx hb dX9_leans_18 rfl (lv_at hl 1 rfl) ?_
    refine lv_iload_n hx hb dX9_leans_19 rfl (lv_at hl 2 rfl) ?_
    refine z_finl (w' := fun (u9 : Unit) => [(am 0, .inr (9, mf0 am)), (am 25, .inl (cI, 5, .inl (fun _ => 0))), (am 33, .inl (cJ, 72, .inr (.inl (fun _ => 0)))), (am 34, .inl (cJ, 72, .inr (.inl (fun _ => 0)))), (am 35, .inl (cJ, 72, .inr (.inl (fun _ => 0))))]) (va_runV (As := [.int p1, .int p2]) (rest := []) ⟨hx, hb, hml, hown, hts⟩ (c_X9_leansBy_239 l dC dI cB cI cJ cZ cP cQ am H.size p1 p2) (cwV 2 hts gX9_leans_X9_leansBy rfl rfl rfl (by decide +kernel) ⟨Nat.le_of_ble_eq_true rfl, Nat.le_of_ble_eq_true rfl⟩) (z_pV (ci := 9) hK hP hD zX_nil [0, 1, 2, 3, 4] (by decide) rfl rfl 0 rfl) rfl rfl hl.1 rfl (lv_room (Nat.le_of_ble_eq_true rfl)) dX9_leans_20 ⟨Nat.le_of_ble_eq_true rfl, Nat.le_of_ble_eq_true rfl⟩) hP hD hS hA [0, 1, 2, 3, 4] [] [0, 1, 2, 3, 4] rfl rfl (by decide) (by decide) (fun _ => rfl) (by decide) (fun r10 u9 H locs hp11 hP hD hS => ?_)
    have hP : va_P (dC, dI) vwCl [(am 0, .inr (9, mf0 am)), (am 25, .inl (cI, 5, .inl (fun _ => 0))), (am 33, .inl (cJ, 72, .inr (.inl (fun _ => 0)))), (am 34, .inl (cJ, 72, .inr (.inl (fun _ => 0)))), (am 35, .inl (cJ, 72, .inr (.inl (fun _ => 0))))] H := hP
    have hD : va_D A [(am 0, .inr (9, mf0 am)), (am 25, .inl (cI, 5, .inl (fun _ => 0))), (am 33, .inl (cJ, 72, .inr (.inl (fun _ => 0)))), (am 34, .inl (cJ, 72, .inr (.inl (fun _ => 0)))), (am 35, .inl (cJ, 72, .inr (.inl (fun _ => 0))))] := hD
    refine W.widen (k := 0) (n := 0) (by decide) (by decide) ?_
    rcases hp11 with ⟨rfl, f12, f13⟩ | ⟨rfl, f14, f15, f16⟩ | ⟨rfl, f17, f18, f19, f20⟩ | ⟨rfl, f21, f22, f23, f24⟩ | ⟨rfl, f25⟩
    · refine lv_goto (tgt := 29) hx hb dX9_leans_23 (by decide) ?_
      have hP9 := hP.sub (ws' := []) [] rfl
      have hD9 := hD.sub (ws' := []) [] (by decide) rfl
      exact z_lret () hx hb hr hlocks hK hP9 hD9 hS hAe hQ rfl (Or.inr (Or.inr (Or.inl ⟨rfl, f7, f8, f12, f13⟩))) dX9_leans_29
    · refine lv_goto (tgt := 29) hx hb dX9_leans_23 (by decide) ?_
      have hP9 := hP.sub (ws' := []) [] rfl
      have hD9 := hD.sub (ws' := []) [] (by decide) rfl
      exact z_lret () hx hb hr hlocks hK hP9 hD9 hS hAe hQ rfl (Or.inr (Or.inr (Or.inr (Or.inl ⟨rfl, f7, f8, f14, f15, f16⟩)))) dX9_leans_29
    · refine lv_goto (tgt := 29) hx hb dX9_leans_23 (by decide) ?_
      have hP9 := hP.sub (ws' := []) [] rfl
      have hD9 := hD.sub (ws' := []) [] (by decide) rfl
      exact z_lret () hx hb hr hlocks hK hP9 hD9 hS hAe hQ rfl (Or.inr (Or.inr (Or.inr (Or.inr (Or.inl ⟨rfl, f7, f8, f17, f18, f19, f20⟩))))) dX9_leans_29
    · refine lv_goto (tgt := 29) hx hb dX9_leans_23 (by decide) ?_
      have hP9 := hP.sub (ws' := []) [] rfl
      have hD9 := hD.sub (ws' := []) [] (by decide) rfl
      exact z_lret () hx hb hr hlocks hK hP9 hD9 hS hAe hQ rfl (Or.inr (Or.inr (Or.inr (Or.inr (Or.inr (Or.inl ⟨rfl, f7, f8, f21, f22, f23, f24⟩)))))) dX9_leans_29
    · refine lv_goto (tgt := 29) hx hb dX9_leans_23 (by decide) ?_
      have hP9 := hP.sub (ws' := []) [] rfl
      have hD9 := hD.sub (ws' := []) [] (by decide) rfl
      exact z_lret () hx hb hr hlocks hK hP9 hD9 hS hAe hQ rfl (Or.inr (Or.inr (Or.inr (Or.inr (Or.inr (Or.inr ⟨rfl, f7, f8, f25⟩)))))) dX9_leans_29
set_option maxHeartbeats 4000000 in
set_option maxRecDepth 100000 in
theorem c_X9_leansBy_241 (l : Launch) (dC : Nat → ClassId) (dI : Nat → Nat → Nat) (cB cI cJ cZ cP cQ : ClassId) (am : Nat → Nat) (sz : Nat) (p2 : Int32) : Met l yX9_leansBy wsX9_leansBy ({ frames := 2, cells := 0, slots := 0, locals := 44 } : Room) (zPc [.ref (am 0), .int 0, .int p2] (dC, dI) (zT cB cI cJ cZ cP cQ) [(am 0, .inr (9, mf0 am)), (am 25, .inl (cI, 5, .inl (fun _ => 0)))] sz [] []) (va_Ql (fun r _ => (fun r => r = (-2000000000)) r) (zB (dC, dI) (zT cB cI cJ cZ cP cQ) (fun _ : Unit => [(am 0, .inr (9, mf0 am)), (am 25, .inl (cI, 5, .inl (fun _ => 0)))]) [(am 0, .inr (9, mf0 am)), (am 25, .inl (cI, 5, .inl (fun _ => 0)))] sz) (va_A [(am 0, .inr (9, mf0 am)), (am 25, .inl (cI, 5, .inl (fun _ => 0)))] sz)) 0 0 (va_A [(am 0, .inr (9, mf0 am)), (am 25, .inl (cI, 5, .inl (fun _ => 0)))] sz) := by
  refine z_enter (cc := cX9_leansBy) (maxL := 7) (ret := (some .long)) (by decide) rfl (Nat.le_of_ble_eq_true rfl) ?_
  intro p e s m below meth c A ls Q H locs hx hb hr hml hown hts hlocks hin hK hP hD hA hX hS hAe hQ hl
  have hown : s.vm.findClass RX9 = some m.cls := hown
  have hi9 : ∀ w ∈ wsX90, w ∈ wsX9_leansBy := fun w h => List.mem_cons_of_mem _ (List.mem_append_right _ h)
  have hk0 := hts (.fieldLink RX9 402 "MonthPushModel" "isTold" "Z") (by decide +kernel)
  have hk1 := hts (.constantLong RX9 408 (-2000000000)) (by decide +kernel)
  have hl : lv_has ls 7 [(0, .ref (am 0)), (1, .int 0), (2, .int p2)] := hl
  refine lv_iload_n hx hb dX9_leansBy_0 rfl (lv_at hl 1 rfl) ?_
  refine lv_if_ne (tgt := 11) hx hb dX9_leansBy_1 (by decide) (fun c => absurd (by decide) c) (fun _ => ?_)
  refine lv_aload_n hx hb dX9_leansBy_4 rfl (lv_at hl 0 rfl) ?_
  refine z_finl (w' := fun (u1 : Unit) => [(am 0, .inr (9, mf0 am)), (am 25, .inl (cI, 5, .inl (fun _ => 0)))]) (va_runV (As := []) (rest := []) ⟨hx, hb, hml, hown, hts⟩ (c_X9_plainOf_189 l dC dI cB cI cJ cZ cP cQ am H.size) (cwV 0 hts gX9_leansBy_X9_plainOf rfl rfl rfl (by decide +kernel) ⟨Nat.le_of_ble_eq_true rfl, Nat.le_of_ble_eq_true rfl⟩) (z_pV (ci := 9) hK hP hD zX_nil [0, 1] (by decide) rfl rfl 0 rfl) rfl rfl hl.1 rfl (lv_room (Nat.le_of_ble_eq_true rfl)) dX9_leansBy_5 ⟨Nat.le_of_ble_eq_true rfl, Nat.le_of_ble_eq_true rfl⟩) hP hD hS hA [0, 1] [] [0, 1] rfl rfl (by decide) (by decide) (fun _ => rfl) (by decide) (fun r2 u1 H locs hp3 hP hD hS => ?_)
  have hP : va_P (dC, dI) vwCl [(am 0, .inr (9, mf0 am)), (am 25, .inl (cI, 5, .inl (fun _ => 0)))] H := hP
  have hD : va_D A [(am 0, .inr (9, mf0 am)), (am 25, .inl (cI, 5, .inl (fun _ => 0)))] := hD
  refine W.widen (k := 0) (n := 0) (by decide) (by decide) ?_
  obtain rfl : r2 = (-2000000000) := hp3
  refine lv_goto (tgt := 28) hx hb dX9_leansBy_8 (by decide) ?_
  refine lv_lstore_n (lv' := [(3, .long (-2000000000)), (0, .ref (am 0)), (1, .int 0), (2, .int p2)]) hx hb dX9_leansBy_28 rfl hl (by decide) rfl (fun ls hl => ?_)
  refine lv_aload_n hx hb dX9_leansBy_29 rfl (lv_at hl 1 rfl) ?_
  refine va_get (D := (dC, dI)) (ci := 9) (v := .int 0) (C := RX9) (T := TX9) (N := 60) hx hb hts hi9 hown hK hP 0 rfl rfl 53 (by decide) hk0 (fun _ h9 => h9) rfl dX9_leansBy_30 ?_
  refine lv_if_ne (tgt := 40) hx hb dX9_leansBy_33 (by decide) (fun c => absurd (by decide) c) (fun _ => ?_)
  refine lv_ldc2 hx hb hown hk1 dX9_leansBy_36 ?_
  exact z_lret () hx hb hr hlocks hK hP hD hS hAe hQ rfl rfl dX9_leansBy_39
set_option maxHeartbeats 4000000 in
set_option maxRecDepth 100000 in
theorem c_X9_leansBy_242 (l : Launch) (dC : Nat → ClassId) (dI : Nat → Nat → Nat) (cB cI cJ cZ cP cQ : ClassId) (am : Nat → Nat) (sz : Nat) (p2 : Int32) : Met l yX9_leansBy wsX9_leansBy ({ frames := 3, cells := 0, slots := 0, locals := 66 } : Room) (zPc [.ref (am 0), .int 1, .int p2] (dC, dI) (zT cB cI cJ cZ cP cQ) [(am 0, .inr (9, mf0 am)), (am 25, .inl (cI, 5, .inl (fun _ => 0)))] sz [] []) (va_Ql (fun r _ => (fun r => (r = (-2000000000) ∧ p2.toInt < 1) ∨ (r = (-2000000000) ∧ 1 ≤ p2.toInt ∧ 4094 < p2.toInt) ∨ (r = (-2000000000) ∧ 1 ≤ p2.toInt ∧ p2.toInt ≤ 4094)) r) (zB (dC, dI) (zT cB cI cJ cZ cP cQ) (fun _ : Unit => [(am 0, .inr (9, mf0 am)), (am 25, .inl (cI, 5, .inl (fun _ => 0)))]) [(am 0, .inr (9, mf0 am)), (am 25, .inl (cI, 5, .inl (fun _ => 0)))] sz) (va_A [(am 0, .inr (9, mf0 am)), (am 25, .inl (cI, 5, .inl (fun _ => 0)))] sz)) 0 0 (va_A [(am 0, .inr (9, mf0 am)), (am 25, .inl (cI, 5, .inl (fun _ => 0)))] sz) := by
  refine z_enter (cc := cX9_leansBy) (maxL := 7) (ret := (some .long)) (by decide) rfl (Nat.le_of_ble_eq_true rfl) ?_
  intro p e s m below meth c A ls Q H locs hx hb hr hml hown hts hlocks hin hK hP hD hA hX hS hAe hQ hl
  have hown : s.vm.findClass RX9 = some m.cls := hown
  have hi9 : ∀ w ∈ wsX90, w ∈ wsX9_leansBy := fun w h => List.mem_cons_of_mem _ (List.mem_append_right _ h)
  have hk0 := hts (.fieldLink RX9 402 "MonthPushModel" "isTold" "Z") (by decide +kernel)
  have hk1 := hts (.constantLong RX9 408 (-2000000000)) (by decide +kernel)
  have hl : lv_has ls 7 [(0, .ref (am 0)), (1, .int 1), (2, .int p2)] := hl
  refine lv_iload_n hx hb dX9_leansBy_0 rfl (lv_at hl 1 rfl) ?_
  refine lv_if_ne (tgt := 11) hx hb dX9_leansBy_1 (by decide) (fun _ => ?_) (fun c => absurd c (by decide))
  refine lv_iload_n hx hb dX9_leansBy_11 rfl (lv_at hl 1 rfl) ?_
  refine lv_iconst (v := 1) hx hb dX9_leansBy_12 (by decide) ?_
  refine lv_icmp_ne (tgt := 24) hx hb dX9_leansBy_13 (by decide) (fun c => absurd (by decide) c) (fun _ => ?_)
  refine lv_aload_n hx hb dX9_leansBy_16 rfl (lv_at hl 0 rfl) ?_
  refine lv_iload_n hx hb dX9_leansBy_17 rfl (lv_at hl 2 rfl) ?_
  refine z_finl (w' := fun (u1 : Unit) => [(am 0, .inr (9, mf0 am)), (am 25, .inl (cI, 5, .inl (fun _ => 0)))]) (va_runV (As := [.int p2]) (rest := []) ⟨hx, hb, hml, hown, hts⟩ (c_X9_byOf_197 l dC dI cB cI cJ cZ cP cQ am H.size p2) (cwV 1 hts gX9_leansBy_X9_byOf rfl rfl rfl (by decide +kernel) ⟨Nat.le_of_ble_eq_true rfl, Nat.le_of_ble_eq_true rfl⟩) (z_pV (ci := 9) hK hP hD zX_nil [0, 1] (by decide) rfl rfl 0 rfl) rfl rfl hl.1 rfl (lv_room (Nat.le_of_ble_eq_true rfl)) dX9_leansBy_18 ⟨Nat.le_of_ble_eq_true rfl, Nat.le_of_ble_eq_true rfl⟩) hP hD hS hA [0, 1] [] [0, 1] rfl rfl (by decide) (by decide) (fun _ => rfl) (by decide) (fun r2 u1 H locs hp3 hP hD hS => ?_)
  have hP : va_P (dC, dI) vwCl [(am 0, .inr (9, mf0 am)), (am 25, .inl (cI, 5, .inl (fun _ => 0)))] H := hP
  have hD : va_D A [(am 0, .inr (9, mf0 am)), (am 25, .inl (cI, 5, .inl (fun _ => 0)))] := hD
  refine W.widen (k := 0) (n := 0) (by decide) (by decide) ?_
  rcases hp3 with ⟨rfl, f4⟩ | ⟨rfl, f5, f6⟩ | ⟨rfl, f7, f8⟩
  · refine lv_goto (tgt := 28) hx hb dX9_leansBy_21 (by decide) ?_
    refine lv_lstore_n (lv' := [(3, .long (-2000000000)), (0, .ref (am 0)), (1, .int 1), (2, .int p2)]) hx hb dX9_leansBy_28 rfl hl (by decide) rfl (fun ls hl => ?_)
    refine lv_aload_n hx hb dX9_leansBy_29 rfl (lv_at hl 1 rfl) ?_
    refine va_get (D := (dC, dI)) (ci := 9) (v := .int 0) (C := RX9) (T := TX9) (N := 60) hx hb hts hi9 hown hK hP 0 rfl rfl 53 (by decide) hk0 (fun _ h9 => h9) rfl dX9_leansBy_30 ?_
    refine lv_if_ne (tgt := 40) hx hb dX9_leansBy_33 (by decide) (fun c => absurd (by decide) c) (fun _ => ?_)
    refine lv_ldc2 hx hb hown hk1 dX9_leansBy_36 ?_
    exact z_lret () hx hb hr hlocks hK hP hD hS hAe hQ rfl (Or.inl (⟨rfl, f4⟩)) dX9_leansBy_39
  · refine lv_goto (tgt := 28) hx hb dX9_leansBy_21 (by decide) ?_
    refine lv_lstore_n (lv' := [(3, .long (-2000000000)), (0, .ref (am 0)), (1, .int 1), (2, .int p2)]) hx hb dX9_leansBy_28 rfl hl (by decide) rfl (fun ls hl => ?_)
    refine lv_aload_n hx hb dX9_leansBy_29 rfl (lv_at hl 1 rfl) ?_
    refine va_get (D := (dC, dI)) (ci := 9) (v := .int 0) (C := RX9) (T := TX9) (N := 60) hx hb hts hi9 hown hK hP 0 rfl rfl 53 (by decide) hk0 (fun _ h9 => h9) rfl dX9_leansBy_30 ?_
    refine lv_if_ne (tgt := 40) hx hb dX9_leansBy_33 (by decide) (fun c => absurd (by decide) c) (fun _ => ?_)
    refine lv_ldc2 hx hb hown hk1 dX9_leansBy_36 ?_
    exact z_lret () hx hb hr hlocks hK hP hD hS hAe hQ rfl (Or.inr (Or.inl ⟨rfl, f5, f6⟩)) dX9_leansBy_39
  · refine lv_goto (tgt := 28) hx hb dX9_leansBy_21 (by decide) ?_
    refine lv_lstore_n (lv' := [(3, .long (-2000000000)), (0, .ref (am 0)), (1, .int 1), (2, .int p2)]) hx hb dX9_leansBy_28 rfl hl (by decide) rfl (fun ls hl => ?_)
    refine lv_aload_n hx hb dX9_leansBy_29 rfl (lv_at hl 1 rfl) ?_
    refine va_get (D := (dC, dI)) (ci := 9) (v := .int 0) (C := RX9) (T := TX9) (N := 60) hx hb hts hi9 hown hK hP 0 rfl rfl 53 (by decide) hk0 (fun _ h9 => h9) rfl dX9_leansBy_30 ?_
    refine lv_if_ne (tgt := 40) hx hb dX9_leansBy_33 (by decide) (fun c => absurd (by decide) c) (fun _ => ?_)
    refine lv_ldc2 hx hb hown hk1 dX9_leansBy_36 ?_
    exact z_lret () hx hb hr hlocks hK hP hD hS hAe hQ rfl (Or.inr (Or.inr ⟨rfl, f7, f8⟩)) dX9_leansBy_39
set_option maxHeartbeats 4000000 in
set_option maxRecDepth 100000 in
theorem c_X9_leansBy_243 (l : Launch) (dC : Nat → ClassId) (dI : Nat → Nat → Nat) (cB cI cJ cZ cP cQ : ClassId) (am : Nat → Nat) (sz : Nat) (p2 : Int32) : Met l yX9_leansBy wsX9_leansBy ({ frames := 2, cells := 0, slots := 0, locals := 49 } : Room) (zPc [.ref (am 0), .int 2, .int p2] (dC, dI) (zT cB cI cJ cZ cP cQ) [(am 0, .inr (9, mf0 am)), (am 25, .inl (cI, 5, .inl (fun _ => 0))), (am 33, .inl (cJ, 72, .inr (.inl (fun _ => 0)))), (am 34, .inl (cJ, 72, .inr (.inl (fun _ => 0)))), (am 35, .inl (cJ, 72, .inr (.inl (fun _ => 0))))] sz [] []) (va_Ql (fun r _ => (fun r => r = (-2000000000)) r) (zB (dC, dI) (zT cB cI cJ cZ cP cQ) (fun _ : Unit => [(am 0, .inr (9, mf0 am)), (am 25, .inl (cI, 5, .inl (fun _ => 0))), (am 33, .inl (cJ, 72, .inr (.inl (fun _ => 0)))), (am 34, .inl (cJ, 72, .inr (.inl (fun _ => 0)))), (am 35, .inl (cJ, 72, .inr (.inl (fun _ => 0))))]) [(am 0, .inr (9, mf0 am)), (am 25, .inl (cI, 5, .inl (fun _ => 0))), (am 33, .inl (cJ, 72, .inr (.inl (fun _ => 0)))), (am 34, .inl (cJ, 72, .inr (.inl (fun _ => 0)))), (am 35, .inl (cJ, 72, .inr (.inl (fun _ => 0))))] sz) (va_A [(am 0, .inr (9, mf0 am)), (am 25, .inl (cI, 5, .inl (fun _ => 0))), (am 33, .inl (cJ, 72, .inr (.inl (fun _ => 0)))), (am 34, .inl (cJ, 72, .inr (.inl (fun _ => 0)))), (am 35, .inl (cJ, 72, .inr (.inl (fun _ => 0))))] sz)) 0 0 (va_A [(am 0, .inr (9, mf0 am)), (am 25, .inl (cI, 5, .inl (fun _ => 0))), (am 33, .inl (cJ, 72, .inr (.inl (fun _ => 0)))), (am 34, .inl (cJ, 72, .inr (.inl (fun _ => 0)))), (am 35, .inl (cJ, 72, .inr (.inl (fun _ => 0))))] sz) := by
  refine z_enter (cc := cX9_leansBy) (maxL := 7) (ret := (some .long)) (by decide) rfl (Nat.le_of_ble_eq_true rfl) ?_
  intro p e s m below meth c A ls Q H locs hx hb hr hml hown hts hlocks hin hK hP hD hA hX hS hAe hQ hl
  have hown : s.vm.findClass RX9 = some m.cls := hown
  have hi9 : ∀ w ∈ wsX90, w ∈ wsX9_leansBy := fun w h => List.mem_cons_of_mem _ (List.mem_append_right _ h)
  have hk0 := hts (.fieldLink RX9 402 "MonthPushModel" "isTold" "Z") (by decide +kernel)
  have hk1 := hts (.constantLong RX9 408 (-2000000000)) (by decide +kernel)
  have hl : lv_has ls 7 [(0, .ref (am 0)), (1, .int 2), (2, .int p2)] := hl
  refine lv_iload_n hx hb dX9_leansBy_0 rfl (lv_at hl 1 rfl) ?_
  refine lv_if_ne (tgt := 11) hx hb dX9_leansBy_1 (by decide) (fun _ => ?_) (fun c => absurd c (by decide))
  refine lv_iload_n hx hb dX9_leansBy_11 rfl (lv_at hl 1 rfl) ?_
  refine lv_iconst (v := 1) hx hb dX9_leansBy_12 (by decide) ?_
  refine lv_icmp_ne (tgt := 24) hx hb dX9_leansBy_13 (by decide) (fun _ => ?_) (fun c => absurd c (by decide))
  refine lv_aload_n hx hb dX9_leansBy_24 rfl (lv_at hl 0 rfl) ?_
  refine z_finl (w' := fun (u1 : Unit) => [(am 0, .inr (9, mf0 am)), (am 25, .inl (cI, 5, .inl (fun _ => 0))), (am 33, .inl (cJ, 72, .inr (.inl (fun _ => 0)))), (am 34, .inl (cJ, 72, .inr (.inl (fun _ => 0)))), (am 35, .inl (cJ, 72, .inr (.inl (fun _ => 0))))]) (va_runV (As := []) (rest := []) ⟨hx, hb, hml, hown, hts⟩ (c_X9_manyOf_200 l dC dI cB cI cJ cZ cP cQ am H.size) (cwV 0 hts gX9_leansBy_X9_manyOf rfl rfl rfl (by decide +kernel) ⟨Nat.le_of_ble_eq_true rfl, Nat.le_of_ble_eq_true rfl⟩) (z_pV (ci := 9) hK hP hD zX_nil [0, 1, 2, 3, 4] (by decide) rfl rfl 0 rfl) rfl rfl hl.1 rfl (lv_room (Nat.le_of_ble_eq_true rfl)) dX9_leansBy_25 ⟨Nat.le_of_ble_eq_true rfl, Nat.le_of_ble_eq_true rfl⟩) hP hD hS hA [0, 1, 2, 3, 4] [] [0, 1, 2, 3, 4] rfl rfl (by decide) (by decide) (fun _ => rfl) (by decide) (fun r2 u1 H locs hp3 hP hD hS => ?_)
  have hP : va_P (dC, dI) vwCl [(am 0, .inr (9, mf0 am)), (am 25, .inl (cI, 5, .inl (fun _ => 0))), (am 33, .inl (cJ, 72, .inr (.inl (fun _ => 0)))), (am 34, .inl (cJ, 72, .inr (.inl (fun _ => 0)))), (am 35, .inl (cJ, 72, .inr (.inl (fun _ => 0))))] H := hP
  have hD : va_D A [(am 0, .inr (9, mf0 am)), (am 25, .inl (cI, 5, .inl (fun _ => 0))), (am 33, .inl (cJ, 72, .inr (.inl (fun _ => 0)))), (am 34, .inl (cJ, 72, .inr (.inl (fun _ => 0)))), (am 35, .inl (cJ, 72, .inr (.inl (fun _ => 0))))] := hD
  refine W.widen (k := 0) (n := 0) (by decide) (by decide) ?_
  obtain rfl : r2 = (-2000000000) := hp3
  refine lv_lstore_n (lv' := [(3, .long (-2000000000)), (0, .ref (am 0)), (1, .int 2), (2, .int p2)]) hx hb dX9_leansBy_28 rfl hl (by decide) rfl (fun ls hl => ?_)
  refine lv_aload_n hx hb dX9_leansBy_29 rfl (lv_at hl 1 rfl) ?_
  refine va_get (D := (dC, dI)) (ci := 9) (v := .int 0) (C := RX9) (T := TX9) (N := 60) hx hb hts hi9 hown hK hP 0 rfl rfl 53 (by decide) hk0 (fun _ h9 => h9) rfl dX9_leansBy_30 ?_
  refine lv_if_ne (tgt := 40) hx hb dX9_leansBy_33 (by decide) (fun c => absurd (by decide) c) (fun _ => ?_)
  refine lv_ldc2 hx hb hown hk1 dX9_leansBy_36 ?_
  exact z_lret () hx hb hr hlocks hK hP hD hS hAe hQ rfl rfl dX9_leansBy_39
set_option maxHeartbeats 4000000 in
set_option maxRecDepth 100000 in
theorem c_X9_least_243 (l : Launch) (dC : Nat → ClassId) (dI : Nat → Nat → Nat) (cB cI cJ cZ cP cQ : ClassId) (am : Nat → Nat) (sz : Nat) (p1 : Int32) : Met l yX9_least wsX9_least ({ frames := 4, cells := 0, slots := 0, locals := 92 } : Room) (zPc [.ref (am 0), .int p1] (dC, dI) (zT cB cI cJ cZ cP cQ) [(am 0, .inr (9, mf0 am)), (am 25, .inl (cI, 5, .inl (fun _ => 0))), (am 33, .inl (cJ, 72, .inr (.inl (fun _ => 0)))), (am 34, .inl (cJ, 72, .inr (.inl (fun _ => 0)))), (am 35, .inl (cJ, 72, .inr (.inl (fun _ => 0))))] sz [] []) (va_Qi (fun r _ => (fun r => (r = (-1) ∧ p1.toInt < 1) ∨ (r = (-1) ∧ 1 ≤ p1.toInt ∧ 4094 < p1.toInt) ∨ (r = (-1) ∧ 1 ≤ p1.toInt ∧ p1.toInt ≤ 4094)) r) (zB (dC, dI) (zT cB cI cJ cZ cP cQ) (fun _ : Unit => []) [(am 0, .inr (9, mf0 am)), (am 25, .inl (cI, 5, .inl (fun _ => 0))), (am 33, .inl (cJ, 72, .inr (.inl (fun _ => 0)))), (am 34, .inl (cJ, 72, .inr (.inl (fun _ => 0)))), (am 35, .inl (cJ, 72, .inr (.inl (fun _ => 0))))] sz) (va_A [(am 0, .inr (9, mf0 am)), (am 25, .inl (cI, 5, .inl (fun _ => 0))), (am 33, .inl (cJ, 72, .inr (.inl (fun _ => 0)))), (am 34, .inl (cJ, 72, .inr (.inl (fun _ => 0)))), (am 35, .inl (cJ, 72, .inr (.inl (fun _ => 0))))] sz)) 0 0 (va_A [(am 0, .inr (9, mf0 am)), (am 25, .inl (cI, 5, .inl (fun _ => 0))), (am 33, .inl (cJ, 72, .inr (.inl (fun _ => 0)))), (am 34, .inl (cJ, 72, .inr (.inl (fun _ => 0)))), (am 35, .inl (cJ, 72, .inr (.inl (fun _ => 0))))] sz) := by
  refine z_enter (cc := cX9_least) (maxL := 10) (ret := (some .int)) (by decide) rfl (Nat.le_of_ble_eq_true rfl) ?_
  intro p e s m below meth c A ls Q H locs hx hb hr hml hown hts hlocks hin hK hP hD hA hX hS hAe hQ hl
  have hown : s.vm.findClass RX9 = some m.cls := hown
  have hi9 : ∀ w ∈ wsX90, w ∈ wsX9_least := fun w h => List.mem_cons_of_mem _ (List.mem_append_right _ h)
  have hk0 := hts (.fieldLink RX9 125 "MonthPushModel" "thrown" "I") (by decide +kernel)
  have hk1 := hts (.fieldLink RX9 402 "MonthPushModel" "isTold" "Z") (by decide +kernel)
  have hl : lv_has ls 10 [(0, .ref (am 0)), (1, .int p1)] := hl
  refine lv_aload_n hx hb dX9_least_0 rfl (lv_at hl 0 rfl) ?_
  refine lv_iconst (v := 0) hx hb dX9_least_1 (by decide) ?_
  refine z_put0 (D := (dC, dI)) (ci := 9) (v := .int 0) (ty := .int) (C := RX9) (T := TX9) (N := 60) hx hb hts hi9 tyX9 tyX9_ok nmX9 hown hK hP hD hS 0 rfl rfl 0 (by decide) hk0 (fun _ h9 => h9) rfl (by decide +kernel) rfl rfl rfl dX9_least_2 (fun H locs hP hS => ?_)
  refine lv_iconst (v := (-1)) hx hb dX9_least_5 (by decide) ?_
  refine lv_istore_n (lv' := [(2, .int (-1)), (0, .ref (am 0)), (1, .int p1)]) hx hb dX9_least_6 rfl hl (by decide) rfl (fun ls hl => ?_)
  refine lv_lconst (v := 0) hx hb dX9_least_7 (by decide) ?_
  refine lv_lstore_n (lv' := [(3, .long 0), (2, .int (-1)), (0, .ref (am 0)), (1, .int p1)]) hx hb dX9_least_8 rfl hl (by decide) rfl (fun ls hl => ?_)
  refine lv_iconst (v := 0) hx hb dX9_least_9 (by decide) ?_
  refine lv_istore (lv' := [(5, .int 0), (3, .long 0), (2, .int (-1)), (0, .ref (am 0)), (1, .int p1)]) hx hb dX9_least_10 hl (by decide) rfl (fun ls hl => ?_)
  refine lv_iload hx hb dX9_least_12 (lv_at hl 0 rfl) ?_
  refine lv_iconst (v := 3) hx hb dX9_least_14 (by decide) ?_
  refine lv_icmp_ge (tgt := 81) hx hb dX9_least_15 (by decide) (fun c => absurd c (by decide)) (fun _ => ?_)
  refine lv_aload_n hx hb dX9_least_18 rfl (lv_at hl 3 rfl) ?_
  refine lv_iload hx hb dX9_least_19 (lv_at hl 0 rfl) ?_
  refine lv_iload_n hx hb dX9_least_21 rfl (lv_at hl 4 rfl) ?_
  refine z_finl (w' := fun (u1 : Unit) => [(am 0, .inr (9, mf0 am)), (am 25, .inl (cI, 5, .inl (fun _ => 0))), (am 33, .inl (cJ, 72, .inr (.inl (fun _ => 0)))), (am 34, .inl (cJ, 72, .inr (.inl (fun _ => 0)))), (am 35, .inl (cJ, 72, .inr (.inl (fun _ => 0))))]) (va_runV (As := [.int 0, .int p1]) (rest := []) ⟨hx, hb, hml, hown, hts⟩ (c_X9_leansBy_241 l dC dI cB cI cJ cZ cP cQ am H.size p1) (cwV 2 hts gX9_least_X9_leansBy rfl rfl rfl (by decide +kernel) ⟨Nat.le_of_ble_eq_true rfl, Nat.le_of_ble_eq_true rfl⟩) (z_pV (ci := 9) hK hP hD zX_nil [0, 1] (by decide) rfl rfl 0 rfl) rfl rfl hl.1 rfl (lv_room (Nat.le_of_ble_eq_true rfl)) dX9_least_22 ⟨Nat.le_of_ble_eq_true rfl, Nat.le_of_ble_eq_true rfl⟩) hP hD hS hA [0, 1] [2, 3, 4] [3, 4, 0, 1, 2] rfl rfl (by decide) (by decide) (fun _ => rfl) (by decide) (fun r2 u1 H locs hp3 hP hD hS => ?_)
  have hP : va_P (dC, dI) vwCl [(am 0, .inr (9, mf0 am)), (am 25, .inl (cI, 5, .inl (fun _ => 0))), (am 33, .inl (cJ, 72, .inr (.inl (fun _ => 0)))), (am 34, .inl (cJ, 72, .inr (.inl (fun _ => 0)))), (am 35, .inl (cJ, 72, .inr (.inl (fun _ => 0))))] H := hP
  have hD : va_D A [(am 0, .inr (9, mf0 am)), (am 25, .inl (cI, 5, .inl (fun _ => 0))), (am 33, .inl (cJ, 72, .inr (.inl (fun _ => 0)))), (am 34, .inl (cJ, 72, .inr (.inl (fun _ => 0)))), (am 35, .inl (cJ, 72, .inr (.inl (fun _ => 0))))] := hD
  refine W.widen (k := 0) (n := 0) (by decide) (by decide) ?_
  obtain rfl : r2 = (-2000000000) := hp3
  refine lv_lstore (lv' := [(6, .long (-2000000000)), (5, .int 0), (3, .long 0), (2, .int (-1)), (0, .ref (am 0)), (1, .int p1)]) hx hb dX9_least_25 hl (by decide) rfl (fun ls hl => ?_)
  refine lv_aload_n hx hb dX9_least_27 rfl (lv_at hl 4 rfl) ?_
  refine va_get (D := (dC, dI)) (ci := 9) (v := .int 0) (C := RX9) (T := TX9) (N := 60) hx hb hts hi9 hown hK hP 0 rfl rfl 53 (by decide) hk1 (fun _ h9 => h9) rfl dX9_least_28 ?_
  refine lv_if_ne (tgt := 37) hx hb dX9_least_31 (by decide) (fun c => absurd (by decide) c) (fun _ => ?_)
  refine lv_goto (tgt := 75) hx hb dX9_least_34 (by decide) ?_
  refine lv_iinc (v := 1) (lv' := [(5, .int 1), (6, .long (-2000000000)), (3, .long 0), (2, .int (-1)), (0, .ref (am 0)), (1, .int p1)]) hx hb dX9_least_75 hl (k := 1) rfl (by decide) (by decide) rfl (fun ls hl => ?_)
  refine lv_goto (tgt := 12) hx hb dX9_least_78 (by decide) ?_
  refine lv_iload hx hb dX9_least_12 (lv_at hl 0 rfl) ?_
  refine lv_iconst (v := 3) hx hb dX9_least_14 (by decide) ?_
  refine lv_icmp_ge (tgt := 81) hx hb dX9_least_15 (by decide) (fun c => absurd c (by decide)) (fun _ => ?_)
  refine lv_aload_n hx hb dX9_least_18 rfl (lv_at hl 4 rfl) ?_
  refine lv_iload hx hb dX9_least_19 (lv_at hl 0 rfl) ?_
  refine lv_iload_n hx hb dX9_least_21 rfl (lv_at hl 5 rfl) ?_
  refine z_finl (w' := fun (u4 : Unit) => [(am 0, .inr (9, mf0 am)), (am 25, .inl (cI, 5, .inl (fun _ => 0))), (am 33, .inl (cJ, 72, .inr (.inl (fun _ => 0)))), (am 34, .inl (cJ, 72, .inr (.inl (fun _ => 0)))), (am 35, .inl (cJ, 72, .inr (.inl (fun _ => 0))))]) (va_runV (As := [.int 1, .int p1]) (rest := []) ⟨hx, hb, hml, hown, hts⟩ (c_X9_leansBy_242 l dC dI cB cI cJ cZ cP cQ am H.size p1) (cwV 2 hts gX9_least_X9_leansBy rfl rfl rfl (by decide +kernel) ⟨Nat.le_of_ble_eq_true rfl, Nat.le_of_ble_eq_true rfl⟩) (z_pV (ci := 9) hK hP hD zX_nil [0, 1] (by decide) rfl rfl 0 rfl) rfl rfl hl.1 rfl (lv_room (Nat.le_of_ble_eq_true rfl)) dX9_least_22 ⟨Nat.le_of_ble_eq_true rfl, Nat.le_of_ble_eq_true rfl⟩) hP hD hS hA [0, 1] [2, 3, 4] [3, 4, 0, 1, 2] rfl rfl (by decide) (by decide) (fun _ => rfl) (by decide) (fun r5 u4 H locs hp6 hP hD hS => ?_)
  have hP : va_P (dC, dI) vwCl [(am 0, .inr (9, mf0 am)), (am 25, .inl (cI, 5, .inl (fun _ => 0))), (am 33, .inl (cJ, 72, .inr (.inl (fun _ => 0)))), (am 34, .inl (cJ, 72, .inr (.inl (fun _ => 0)))), (am 35, .inl (cJ, 72, .inr (.inl (fun _ => 0))))] H := hP
  have hD : va_D A [(am 0, .inr (9, mf0 am)), (am 25, .inl (cI, 5, .inl (fun _ => 0))), (am 33, .inl (cJ, 72, .inr (.inl (fun _ => 0)))), (am 34, .inl (cJ, 72, .inr (.inl (fun _ => 0)))), (am 35, .inl (cJ, 72, .inr (.inl (fun _ => 0))))] := hD
  refine W.widen (k := 0) (n := 0) (by decide) (by decide) ?_
  rcases hp6 with ⟨rfl, f7⟩ | ⟨rfl, f8, f9⟩ | ⟨rfl, f10, f11⟩
  · refine lv_lstore (lv' := [(6, .long (-2000000000)), (5, .int 1), (3, .long 0), (2, .int (-1)), (0, .ref (am 0)), (1, .int p1)]) hx hb dX9_least_25 hl (by decide) rfl (fun ls hl => ?_)
    refine lv_aload_n hx hb dX9_least_27 rfl (lv_at hl 4 rfl) ?_
    refine va_get (D := (dC, dI)) (ci := 9) (v := .int 0) (C := RX9) (T := TX9) (N := 60) hx hb hts hi9 hown hK hP 0 rfl rfl 53 (by decide) hk1 (fun _ h9 => h9) rfl dX9_least_28 ?_
    refine lv_if_ne (tgt := 37) hx hb dX9_least_31 (by decide) (fun c => absurd (by decide) c) (fun _ => ?_)
    refine lv_goto (tgt := 75) hx hb dX9_least_34 (by decide) ?_
    refine lv_iinc (v := 2) (lv' := [(5, .int 2), (6, .long (-2000000000)), (3, .long 0), (2, .int (-1)), (0, .ref (am 0)), (1, .int p1)]) hx hb dX9_least_75 hl (k := 1) rfl (by decide) (by decide) rfl (fun ls hl => ?_)
    refine lv_goto (tgt := 12) hx hb dX9_least_78 (by decide) ?_
    refine lv_iload hx hb dX9_least_12 (lv_at hl 0 rfl) ?_
    refine lv_iconst (v := 3) hx hb dX9_least_14 (by decide) ?_
    refine lv_icmp_ge (tgt := 81) hx hb dX9_least_15 (by decide) (fun c => absurd c (by decide)) (fun _ => ?_)
    refine lv_aload_n hx hb dX9_least_18 rfl (lv_at hl 4 rfl) ?_
    refine lv_iload hx hb dX9_least_19 (lv_at hl 0 rfl) ?_
    refine lv_iload_n hx hb dX9_least_21 rfl (lv_at hl 5 rfl) ?_
    refine z_finl (w' := fun (u12 : Unit) => [(am 0, .inr (9, mf0 am)), (am 25, .inl (cI, 5, .inl (fun _ => 0))), (am 33, .inl (cJ, 72, .inr (.inl (fun _ => 0)))), (am 34, .inl (cJ, 72, .inr (.inl (fun _ => 0)))), (am 35, .inl (cJ, 72, .inr (.inl (fun _ => 0))))]) (va_runV (As := [.int 2, .int p1]) (rest := []) ⟨hx, hb, hml, hown, hts⟩ (c_X9_leansBy_243 l dC dI cB cI cJ cZ cP cQ am H.size p1) (cwV 2 hts gX9_least_X9_leansBy rfl rfl rfl (by decide +kernel) ⟨Nat.le_of_ble_eq_true rfl, Nat.le_of_ble_eq_true rfl⟩) (z_pV (ci := 9) hK hP hD zX_nil [0, 1, 2, 3, 4] (by decide) rfl rfl 0 rfl) rfl rfl hl.1 rfl (lv_room (Nat.le_of_ble_eq_true rfl)) dX9_least_22 ⟨Nat.le_of_ble_eq_true rfl, Nat.le_of_ble_eq_true rfl⟩) hP hD hS hA [0, 1, 2, 3, 4] [] [0, 1, 2, 3, 4] rfl rfl (by decide) (by decide) (fun _ => rfl) (by decide) (fun r13 u12 H locs hp14 hP hD hS => ?_)
    have hP : va_P (dC, dI) vwCl [(am 0, .inr (9, mf0 am)), (am 25, .inl (cI, 5, .inl (fun _ => 0))), (am 33, .inl (cJ, 72, .inr (.inl (fun _ => 0)))), (am 34, .inl (cJ, 72, .inr (.inl (fun _ => 0)))), (am 35, .inl (cJ, 72, .inr (.inl (fun _ => 0))))] H := hP
    have hD : va_D A [(am 0, .inr (9, mf0 am)), (am 25, .inl (cI, 5, .inl (fun _ => 0))), (am 33, .inl (cJ, 72, .inr (.inl (fun _ => 0)))), (am 34, .inl (cJ, 72, .inr (.inl (fun _ => 0)))), (am 35, .inl (cJ, 72, .inr (.inl (fun _ => 0))))] := hD
    refine W.widen (k := 0) (n := 0) (by decide) (by decide) ?_
    obtain rfl : r13 = (-2000000000) := hp14
    refine lv_lstore (lv' := [(6, .long (-2000000000)), (5, .int 2), (3, .long 0), (2, .int (-1)), (0, .ref (am 0)), (1, .int p1)]) hx hb dX9_least_25 hl (by decide) rfl (fun ls hl => ?_)
    refine lv_aload_n hx hb dX9_least_27 rfl (lv_at hl 4 rfl) ?_
    refine va_get (D := (dC, dI)) (ci := 9) (v := .int 0) (C := RX9) (T := TX9) (N := 60) hx hb hts hi9 hown hK hP 0 rfl rfl 53 (by decide) hk1 (fun _ h9 => h9) rfl dX9_least_28 ?_
    refine lv_if_ne (tgt := 37) hx hb dX9_least_31 (by decide) (fun c => absurd (by decide) c) (fun _ => ?_)
    refine lv_goto (tgt := 75) hx hb dX9_least_34 (by decide) ?_
    refine lv_iinc (v := 3) (lv' := [(5, .int 3), (6, .long (-2000000000)), (3, .long 0), (2, .int (-1)), (0, .ref (am 0)), (1, .int p1)]) hx hb dX9_least_75 hl (k := 1) rfl (by decide) (by decide) rfl (fun ls hl => ?_)
    refine lv_goto (tgt := 12) hx hb dX9_least_78 (by decide) ?_
    refine lv_iload hx hb dX9_least_12 (lv_at hl 0 rfl) ?_
    refine lv_iconst (v := 3) hx hb dX9_least_14 (by decide) ?_
    refine lv_icmp_ge (tgt := 81) hx hb dX9_least_15 (by decide) (fun _ => ?_) (fun c => absurd (by decide) c)
    refine lv_iload_n hx hb dX9_least_81 rfl (lv_at hl 3 rfl) ?_
    have hP9 := hP.sub (ws' := []) [] rfl
    have hD9 := hD.sub (ws' := []) [] (by decide) rfl
    exact z_iret () hx hb hr hlocks hK hP9 hD9 hS hAe hQ rfl (Or.inl (⟨rfl, f7⟩)) dX9_least_82
  · refine lv_lstore (lv' := [(6, .long (-2000000000)), (5, .int 1), (3, .long 0), (2, .int (-1)), (0, .ref (am 0)), (1, .int p1)]) hx hb dX9_least_25 hl (by decide) rfl (fun ls hl => ?_)
    refine lv_aload_n hx hb dX9_least_27 rfl (lv_at hl 4 rfl) ?_
    refine va_get (D := (dC, dI)) (ci := 9) (v := .int 0) (C := RX9) (T := TX9) (N := 60) hx hb hts hi9 hown hK hP 0 rfl rfl 53 (by decide) hk1 (fun _ h9 => h9) rfl dX9_least_28 ?_
    refine lv_if_ne (tgt := 37) hx hb dX9_least_31 (by decide) (fun c => absurd (by decide) c) (fun _ => ?_)
    refine lv_goto (tgt := 75) hx hb dX9_least_34 (by decide) ?_
    refine lv_iinc (v := 2) (lv' := [(5, .int 2), (6, .long (-2000000000)), (3, .long 0), (2, .int (-1)), (0, .ref (am 0)), (1, .int p1)]) hx hb dX9_least_75 hl (k := 1) rfl (by decide) (by decide) rfl (fun ls hl => ?_)
    refine lv_goto (tgt := 12) hx hb dX9_least_78 (by decide) ?_
    refine lv_iload hx hb dX9_least_12 (lv_at hl 0 rfl) ?_
    refine lv_iconst (v := 3) hx hb dX9_least_14 (by decide) ?_
    refine lv_icmp_ge (tgt := 81) hx hb dX9_least_15 (by decide) (fun c => absurd c (by decide)) (fun _ => ?_)
    refine lv_aload_n hx hb dX9_least_18 rfl (lv_at hl 4 rfl) ?_
    refine lv_iload hx hb dX9_least_19 (lv_at hl 0 rfl) ?_
    refine lv_iload_n hx hb dX9_least_21 rfl (lv_at hl 5 rfl) ?_
    refine z_finl (w' := fun (u15 : Unit) => [(am 0, .inr (9, mf0 am)), (am 25, .inl (cI, 5, .inl (fun _ => 0))), (am 33, .inl (cJ, 72, .inr (.inl (fun _ => 0)))), (am 34, .inl (cJ, 72, .inr (.inl (fun _ => 0)))), (am 35, .inl (cJ, 72, .inr (.inl (fun _ => 0))))]) (va_runV (As := [.int 2, .int p1]) (rest := []) ⟨hx, hb, hml, hown, hts⟩ (c_X9_leansBy_243 l dC dI cB cI cJ cZ cP cQ am H.size p1) (cwV 2 hts gX9_least_X9_leansBy rfl rfl rfl (by decide +kernel) ⟨Nat.le_of_ble_eq_true rfl, Nat.le_of_ble_eq_true rfl⟩) (z_pV (ci := 9) hK hP hD zX_nil [0, 1, 2, 3, 4] (by decide) rfl rfl 0 rfl) rfl rfl hl.1 rfl (lv_room (Nat.le_of_ble_eq_true rfl)) dX9_least_22 ⟨Nat.le_of_ble_eq_true rfl, Nat.le_of_ble_eq_true rfl⟩) hP hD hS hA [0, 1, 2, 3, 4] [] [0, 1, 2, 3, 4] rfl rfl (by decide) (by decide) (fun _ => rfl) (by decide) (fun r16 u15 H locs hp17 hP hD hS => ?_)
    have hP : va_P (dC, dI) vwCl [(am 0, .inr (9, mf0 am)), (am 25, .inl (cI, 5, .inl (fun _ => 0))), (am 33, .inl (cJ, 72, .inr (.inl (fun _ => 0)))), (am 34, .inl (cJ, 72, .inr (.inl (fun _ => 0)))), (am 35, .inl (cJ, 72, .inr (.inl (fun _ => 0))))] H := hP
    have hD : va_D A [(am 0, .inr (9, mf0 am)), (am 25, .inl (cI, 5, .inl (fun _ => 0))), (am 33, .inl (cJ, 72, .inr (.inl (fun _ => 0)))), (am 34, .inl (cJ, 72, .inr (.inl (fun _ => 0)))), (am 35, .inl (cJ, 72, .inr (.inl (fun _ => 0))))] := hD
    refine W.widen (k := 0) (n := 0) (by decide) (by decide) ?_
    obtain rfl : r16 = (-2000000000) := hp17
    refine lv_lstore (lv' := [(6, .long (-2000000000)), (5, .int 2), (3, .long 0), (2, .int (-1)), (0, .ref (am 0)), (1, .int p1)]) hx hb dX9_least_25 hl (by decide) rfl (fun ls hl => ?_)
    refine lv_aload_n hx hb dX9_least_27 rfl (lv_at hl 4 rfl) ?_
    refine va_get (D := (dC, dI)) (ci := 9) (v := .int 0) (C := RX9) (T := TX9) (N := 60) hx hb hts hi9 hown hK hP 0 rfl rfl 53 (by decide) hk1 (fun _ h9 => h9) rfl dX9_least_28 ?_
    refine lv_if_ne (tgt := 37) hx hb dX9_least_31 (by decide) (fun c => absurd (by decide) c) (fun _ => ?_)
    refine lv_goto (tgt := 75) hx hb dX9_least_34 (by decide) ?_
    refine lv_iinc (v := 3) (lv' := [(5, .int 3), (6, .long (-2000000000)), (3, .long 0), (2, .int (-1)), (0, .ref (am 0)), (1, .int p1)]) hx hb dX9_least_75 hl (k := 1) rfl (by decide) (by decide) rfl (fun ls hl => ?_)
    refine lv_goto (tgt := 12) hx hb dX9_least_78 (by decide) ?_
    refine lv_iload hx hb dX9_least_12 (lv_at hl 0 rfl) ?_
    refine lv_iconst (v := 3) hx hb dX9_least_14 (by decide) ?_
    refine lv_icmp_ge (tgt := 81) hx hb dX9_least_15 (by decide) (fun _ => ?_) (fun c => absurd (by decide) c)
    refine lv_iload_n hx hb dX9_least_81 rfl (lv_at hl 3 rfl) ?_
    have hP9 := hP.sub (ws' := []) [] rfl
    have hD9 := hD.sub (ws' := []) [] (by decide) rfl
    exact z_iret () hx hb hr hlocks hK hP9 hD9 hS hAe hQ rfl (Or.inr (Or.inl ⟨rfl, f8, f9⟩)) dX9_least_82
  · refine lv_lstore (lv' := [(6, .long (-2000000000)), (5, .int 1), (3, .long 0), (2, .int (-1)), (0, .ref (am 0)), (1, .int p1)]) hx hb dX9_least_25 hl (by decide) rfl (fun ls hl => ?_)
    refine lv_aload_n hx hb dX9_least_27 rfl (lv_at hl 4 rfl) ?_
    refine va_get (D := (dC, dI)) (ci := 9) (v := .int 0) (C := RX9) (T := TX9) (N := 60) hx hb hts hi9 hown hK hP 0 rfl rfl 53 (by decide) hk1 (fun _ h9 => h9) rfl dX9_least_28 ?_
    refine lv_if_ne (tgt := 37) hx hb dX9_least_31 (by decide) (fun c => absurd (by decide) c) (fun _ => ?_)
    refine lv_goto (tgt := 75) hx hb dX9_least_34 (by decide) ?_
    refine lv_iinc (v := 2) (lv' := [(5, .int 2), (6, .long (-2000000000)), (3, .long 0), (2, .int (-1)), (0, .ref (am 0)), (1, .int p1)]) hx hb dX9_least_75 hl (k := 1) rfl (by decide) (by decide) rfl (fun ls hl => ?_)
    refine lv_goto (tgt := 12) hx hb dX9_least_78 (by decide) ?_
    refine lv_iload hx hb dX9_least_12 (lv_at hl 0 rfl) ?_
    refine lv_iconst (v := 3) hx hb dX9_least_14 (by decide) ?_
    refine lv_icmp_ge (tgt := 81) hx hb dX9_least_15 (by decide) (fun c => absurd c (by decide)) (fun _ => ?_)
    refine lv_aload_n hx hb dX9_least_18 rfl (lv_at hl 4 rfl) ?_
    refine lv_iload hx hb dX9_least_19 (lv_at hl 0 rfl) ?_
    refine lv_iload_n hx hb dX9_least_21 rfl (lv_at hl 5 rfl) ?_
    refine z_finl (w' := fun (u18 : Unit) => [(am 0, .inr (9, mf0 am)), (am 25, .inl (cI, 5, .inl (fun _ => 0))), (am 33, .inl (cJ, 72, .inr (.inl (fun _ => 0)))), (am 34, .inl (cJ, 72, .inr (.inl (fun _ => 0)))), (am 35, .inl (cJ, 72, .inr (.inl (fun _ => 0))))]) (va_runV (As := [.int 2, .int p1]) (rest := []) ⟨hx, hb, hml, hown, hts⟩ (c_X9_leansBy_243 l dC dI cB cI cJ cZ cP cQ am H.size p1) (cwV 2 hts gX9_least_X9_leansBy rfl rfl rfl (by decide +kernel) ⟨Nat.le_of_ble_eq_true rfl, Nat.le_of_ble_eq_true rfl⟩) (z_pV (ci := 9) hK hP hD zX_nil [0, 1, 2, 3, 4] (by decide) rfl rfl 0 rfl) rfl rfl hl.1 rfl (lv_room (Nat.le_of_ble_eq_true rfl)) dX9_least_22 ⟨Nat.le_of_ble_eq_true rfl, Nat.le_of_ble_eq_true rfl⟩) hP hD hS hA [0, 1, 2, 3, 4] [] [0, 1, 2, 3, 4] rfl rfl (by decide) (by decide) (fun _ => rfl) (by decide) (fun r19 u18 H locs hp20 hP hD hS => ?_)
    have hP : va_P (dC, dI) vwCl [(am 0, .inr (9, mf0 am)), (am 25, .inl (cI, 5, .inl (fun _ => 0))), (am 33, .inl (cJ, 72, .inr (.inl (fun _ => 0)))), (am 34, .inl (cJ, 72, .inr (.inl (fun _ => 0)))), (am 35, .inl (cJ, 72, .inr (.inl (fun _ => 0))))] H := hP
    have hD : va_D A [(am 0, .inr (9, mf0 am)), (am 25, .inl (cI, 5, .inl (fun _ => 0))), (am 33, .inl (cJ, 72, .inr (.inl (fun _ => 0)))), (am 34, .inl (cJ, 72, .inr (.inl (fun _ => 0)))), (am 35, .inl (cJ, 72, .inr (.inl (fun _ => 0))))] := hD
    refine W.widen (k := 0) (n := 0) (by decide) (by decide) ?_
    obtain rfl : r19 = (-2000000000) := hp20
    refine lv_lstore (lv' := [(6, .long (-2000000000)), (5, .int 2), (3, .long 0), (2, .int (-1)), (0, .ref (am 0)), (1, .int p1)]) hx hb dX9_least_25 hl (by decide) rfl (fun ls hl => ?_)
    refine lv_aload_n hx hb dX9_least_27 rfl (lv_at hl 4 rfl) ?_
    refine va_get (D := (dC, dI)) (ci := 9) (v := .int 0) (C := RX9) (T := TX9) (N := 60) hx hb hts hi9 hown hK hP 0 rfl rfl 53 (by decide) hk1 (fun _ h9 => h9) rfl dX9_least_28 ?_
    refine lv_if_ne (tgt := 37) hx hb dX9_least_31 (by decide) (fun c => absurd (by decide) c) (fun _ => ?_)
    refine lv_goto (tgt := 75) hx hb dX9_least_34 (by decide) ?_
    refine lv_iinc (v := 3) (lv' := [(5, .int 3), (6, .long (-2000000000)), (3, .long 0), (2, .int (-1)), (0, .ref (am 0)), (1, .int p1)]) hx hb dX9_least_75 hl (k := 1) rfl (by decide) (by decide) rfl (fun ls hl => ?_)
    refine lv_goto (tgt := 12) hx hb dX9_least_78 (by decide) ?_
    refine lv_iload hx hb dX9_least_12 (lv_at hl 0 rfl) ?_
    refine lv_iconst (v := 3) hx hb dX9_least_14 (by decide) ?_
    refine lv_icmp_ge (tgt := 81) hx hb dX9_least_15 (by decide) (fun _ => ?_) (fun c => absurd (by decide) c)
    refine lv_iload_n hx hb dX9_least_81 rfl (lv_at hl 3 rfl) ?_
    have hP9 := hP.sub (ws' := []) [] rfl
    have hD9 := hD.sub (ws' := []) [] (by decide) rfl
    exact z_iret () hx hb hr hlocks hK hP9 hD9 hS hAe hQ rfl (Or.inr (Or.inr ⟨rfl, f10, f11⟩)) dX9_least_82
set_option maxHeartbeats 4000000 in
set_option maxRecDepth 100000 in
theorem c_X9_beside_244 (l : Launch) (dC : Nat → ClassId) (dI : Nat → Nat → Nat) (cB cI cJ cZ cP cQ : ClassId) (am : Nat → Nat) (sz : Nat) (p1 : Int32) (p2 : Int32) : Met l yX9_beside wsX9_beside ({ frames := 3, cells := 0, slots := 0, locals := 67 } : Room) (zPc [.ref (am 0), .int p1, .int p2] (dC, dI) (zT cB cI cJ cZ cP cQ) [(am 0, .inr (9, mf0 am)), (am 25, .inl (cI, 5, .inl (fun _ => 0)))] sz [] []) (va_Qi (fun r _ => (fun r => (r = (-2000000000) ∧ p1.toInt < 0) ∨ (r = (-2000000000) ∧ 0 ≤ p1.toInt)) r) (zB (dC, dI) (zT cB cI cJ cZ cP cQ) (fun _ : Unit => []) [(am 0, .inr (9, mf0 am)), (am 25, .inl (cI, 5, .inl (fun _ => 0)))] sz) (va_A [(am 0, .inr (9, mf0 am)), (am 25, .inl (cI, 5, .inl (fun _ => 0)))] sz)) 0 0 (va_A [(am 0, .inr (9, mf0 am)), (am 25, .inl (cI, 5, .inl (fun _ => 0)))] sz) := by
  refine z_enter (cc := cX9_beside) (maxL := 3) (ret := (some .int)) (by decide) rfl (Nat.le_of_ble_eq_true rfl) ?_
  intro p e s m below meth c A ls Q H locs hx hb hr hml hown hts hlocks hin hK hP hD hA hX hS hAe hQ hl
  have hown : s.vm.findClass RX9 = some m.cls := hown
  have hi9 : ∀ w ∈ wsX90, w ∈ wsX9_beside := fun w h => List.mem_cons_of_mem _ (List.mem_append_right _ h)
  have hk0 := hts (.fieldLink RX9 125 "MonthPushModel" "thrown" "I") (by decide +kernel)
  have hk1 := hts (.constant RX9 369 (-2000000000)) (by decide +kernel)
  have hl : lv_has ls 3 [(0, .ref (am 0)), (1, .int p1), (2, .int p2)] := hl
  refine lv_aload_n hx hb dX9_beside_0 rfl (lv_at hl 0 rfl) ?_
  refine lv_iconst (v := 0) hx hb dX9_beside_1 (by decide) ?_
  refine z_put0 (D := (dC, dI)) (ci := 9) (v := .int 0) (ty := .int) (C := RX9) (T := TX9) (N := 60) hx hb hts hi9 tyX9 tyX9_ok nmX9 hown hK hP hD hS 0 rfl rfl 0 (by decide) hk0 (fun _ h9 => h9) rfl (by decide +kernel) rfl rfl rfl dX9_beside_2 (fun H locs hP hS => ?_)
  refine lv_aload_n hx hb dX9_beside_5 rfl (lv_at hl 0 rfl) ?_
  refine lv_iload_n hx hb dX9_beside_6 rfl (lv_at hl 1 rfl) ?_
  refine z_fini (w' := fun (u1 : Unit) => [(am 0, .inr (9, mf0 am)), (am 25, .inl (cI, 5, .inl (fun _ => 0)))]) (va_runV (As := [.int p1]) (rest := []) ⟨hx, hb, hml, hown, hts⟩ (c_X9_isThere_181 l dC dI cB cI cJ cZ cP cQ am H.size p1) (cwV 1 hts gX9_beside_X9_isThere rfl rfl rfl (by decide +kernel) ⟨Nat.le_of_ble_eq_true rfl, Nat.le_of_ble_eq_true rfl⟩) (z_pV (ci := 9) hK hP hD zX_nil [0, 1] (by decide) rfl rfl 0 rfl) rfl rfl hl.1 rfl (lv_room (Nat.le_of_ble_eq_true rfl)) dX9_beside_7 ⟨Nat.le_of_ble_eq_true rfl, Nat.le_of_ble_eq_true rfl⟩) hP hD hS hA [0, 1] [] [0, 1] rfl rfl (by decide) (by decide) (fun _ => rfl) (by decide) (fun r2 u1 H locs hp3 hP hD hS => ?_)
  have hP : va_P (dC, dI) vwCl [(am 0, .inr (9, mf0 am)), (am 25, .inl (cI, 5, .inl (fun _ => 0)))] H := hP
  have hD : va_D A [(am 0, .inr (9, mf0 am)), (am 25, .inl (cI, 5, .inl (fun _ => 0)))] := hD
  refine W.widen (k := 0) (n := 0) (by decide) (by decide) ?_
  rcases hp3 with ⟨rfl, f4⟩ | ⟨rfl, f5⟩
  · refine lv_if_eq (tgt := 20) hx hb dX9_beside_10 (by decide) (fun _ => ?_) (fun c => absurd (by decide) c)
    refine lv_ldcw hx hb hown hk1 dX9_beside_20 ?_
    have hP9 := hP.sub (ws' := []) [] rfl
    have hD9 := hD.sub (ws' := []) [] (by decide) rfl
    exact z_iret () hx hb hr hlocks hK hP9 hD9 hS hAe hQ rfl (Or.inl (⟨rfl, f4⟩)) dX9_beside_23
  · refine lv_if_eq (tgt := 20) hx hb dX9_beside_10 (by decide) (fun _ => ?_) (fun c => absurd (by decide) c)
    refine lv_ldcw hx hb hown hk1 dX9_beside_20 ?_
    have hP9 := hP.sub (ws' := []) [] rfl
    have hD9 := hD.sub (ws' := []) [] (by decide) rfl
    exact z_iret () hx hb hr hlocks hK hP9 hD9 hS hAe hQ rfl (Or.inr ⟨rfl, f5⟩) dX9_beside_23
set_option maxHeartbeats 4000000 in
set_option maxRecDepth 100000 in
theorem c_X9_in_246 (l : Launch) (dC : Nat → ClassId) (dI : Nat → Nat → Nat) (cB cI cJ cZ cP cQ : ClassId) (sz : Nat) (p0 : Int32) : Met l yX9_in wsX9_in ({ frames := 0, cells := 0, slots := 0, locals := 0 } : Room) (zPc [.long p0.toInt64, .long 1, .long 20] (dC, dI) (zT cB cI cJ cZ cP cQ) [] sz [] []) (va_Qi (fun r _ => (fun r => (r = 0 ∧ p0.toInt < 1) ∨ (r = 0 ∧ 1 ≤ p0.toInt ∧ 20 < p0.toInt) ∨ (r = 1 ∧ 1 ≤ p0.toInt ∧ p0.toInt ≤ 20)) r) (zB (dC, dI) (zT cB cI cJ cZ cP cQ) (fun _ : Unit => []) [] sz) (va_A [] sz)) 0 0 (va_A [] sz) := by
  refine z_enter (cc := cX9_in) (maxL := 6) (ret := (some .boolean)) (by decide) rfl (Nat.le_of_ble_eq_true rfl) ?_
  intro p e s m below meth c A ls Q H locs hx hb hr hml hown hts hlocks hin hK hP hD hA hX hS hAe hQ hl
  have hown : s.vm.findClass RX9 = some m.cls := hown
  have hl : lv_has ls 6 [(0, .long p0.toInt64), (2, .long 1), (4, .long 20)] := hl
  refine lv_lload_n hx hb dX9_in_0 rfl (lv_at hl 0 rfl) ?_
  refine lv_lload_n hx hb dX9_in_1 rfl (lv_at hl 1 rfl) ?_
  refine W.lcmp hx hb dX9_in_2 ?_
  refine lv_if_lt (tgt := 17) hx hb dX9_in_3 (by decide) (fun c_1 => ?_) (fun c_1 => ?_)
  · have f2 : p0.toInt < 1 := z_llt (z_i2l p0) (by decide) c_1
    refine lv_iconst (v := 0) hx hb dX9_in_17 (by decide) ?_
    exact z_zret () hx hb hr hlocks hK hP hD hS hAe hQ rfl (Or.inl (⟨rfl, f2⟩)) (by decide) dX9_in_18
  · have f2 : 1 ≤ p0.toInt := z_lnlt (z_i2l p0) (by decide) c_1
    refine lv_lload_n hx hb dX9_in_6 rfl (lv_at hl 0 rfl) ?_
    refine lv_lload hx hb dX9_in_7 (lv_at hl 2 rfl) ?_
    refine W.lcmp hx hb dX9_in_9 ?_
    refine lv_if_gt (tgt := 17) hx hb dX9_in_10 (by decide) (fun c_3 => ?_) (fun c_3 => ?_)
    · have f4 : 20 < p0.toInt := z_lgt (z_i2l p0) (by decide) c_3
      refine lv_iconst (v := 0) hx hb dX9_in_17 (by decide) ?_
      exact z_zret () hx hb hr hlocks hK hP hD hS hAe hQ rfl (Or.inr (Or.inl ⟨rfl, f2, f4⟩)) (by decide) dX9_in_18
    · have f4 : p0.toInt ≤ 20 := z_lngt (z_i2l p0) (by decide) c_3
      refine lv_iconst (v := 1) hx hb dX9_in_13 (by decide) ?_
      refine lv_goto (tgt := 18) hx hb dX9_in_14 (by decide) ?_
      exact z_zret () hx hb hr hlocks hK hP hD hS hAe hQ rfl (Or.inr (Or.inr ⟨rfl, f2, f4⟩)) (by decide) dX9_in_18
set_option maxHeartbeats 4000000 in
set_option maxRecDepth 100000 in
theorem c_X9_worlds_246 (l : Launch) (dC : Nat → ClassId) (dI : Nat → Nat → Nat) (cB cI cJ cZ cP cQ : ClassId) (am : Nat → Nat) (sz : Nat) (p1 : Int32) (p2 : Int32) (p3 : Int32) (p4 : Int32) (p5 : Int32) : Met l yX9_worlds wsX9_worlds ({ frames := 3, cells := 0, slots := 0, locals := 66 } : Room) (zPc [.ref (am 0), .int p1, .int p2, .int p3, .int p4, .int p5] (dC, dI) (zT cB cI cJ cZ cP cQ) [(am 0, .inr (9, mf0 am)), (am 7, .inl (cI, 5, .inl (fun _ => 0)))] sz [] []) (va_Qi (fun r _ => (fun r => (r = (-2) ∧ p1.toInt < 1) ∨ (r = (-2) ∧ 1 ≤ p1.toInt ∧ 4094 < p1.toInt) ∨ (r = (-2) ∧ 1 ≤ p1.toInt ∧ p1.toInt ≤ 4094 ∧ p4.toInt < 1) ∨ (r = (-2) ∧ 1 ≤ p1.toInt ∧ p1.toInt ≤ 4094 ∧ 1 ≤ p4.toInt ∧ 10 < p4.toInt) ∨ (r = (-2) ∧ 1 ≤ p1.toInt ∧ p1.toInt ≤ 4094 ∧ 1 ≤ p4.toInt ∧ p4.toInt ≤ 10 ∧ p2.toInt < 0) ∨ (r = (-2) ∧ 1 ≤ p1.toInt ∧ p1.toInt ≤ 4094 ∧ 1 ≤ p4.toInt ∧ p4.toInt ≤ 10 ∧ 0 ≤ p2.toInt ∧ 2000000000 < p2.toInt) ∨ (r = (-2) ∧ 1 ≤ p1.toInt ∧ p1.toInt ≤ 4094 ∧ 1 ≤ p4.toInt ∧ p4.toInt ≤ 10 ∧ 0 ≤ p2.toInt ∧ p2.toInt ≤ 2000000000 ∧ p3.toInt < 1) ∨ (r = (-2) ∧ 1 ≤ p1.toInt ∧ p1.toInt ≤ 4094 ∧ 1 ≤ p4.toInt ∧ p4.toInt ≤ 10 ∧ 0 ≤ p2.toInt ∧ p2.toInt ≤ 2000000000 ∧ 1 ≤ p3.toInt ∧ 20 < p3.toInt) ∨ (r = (-2) ∧ 1 ≤ p1.toInt ∧ p1.toInt ≤ 4094 ∧ 1 ≤ p4.toInt ∧ p4.toInt ≤ 10 ∧ 0 ≤ p2.toInt ∧ p2.toInt ≤ 2000000000 ∧ 1 ≤ p3.toInt ∧ p3.toInt ≤ 20 ∧ p5.toInt < 0) ∨ (r = (-2) ∧ 1 ≤ p1.toInt ∧ p1.toInt ≤ 4094 ∧ 1 ≤ p4.toInt ∧ p4.toInt ≤ 10 ∧ 0 ≤ p2.toInt ∧ p2.toInt ≤ 2000000000 ∧ 1 ≤ p3.toInt ∧ p3.toInt ≤ 20 ∧ 0 ≤ p5.toInt ∧ 2 < p5.toInt) ∨ (r = (-6) ∧ 1 ≤ p1.toInt ∧ p1.toInt ≤ 4094 ∧ 1 ≤ p4.toInt ∧ p4.toInt ≤ 10 ∧ 0 ≤ p2.toInt ∧ p2.toInt ≤ 2000000000 ∧ 1 ≤ p3.toInt ∧ p3.toInt ≤ 20 ∧ 0 ≤ p5.toInt ∧ p5.toInt ≤ 2)) r) (zB (dC, dI) (zT cB cI cJ cZ cP cQ) (fun _ : Unit => []) [(am 0, .inr (9, mf0 am)), (am 7, .inl (cI, 5, .inl (fun _ => 0)))] sz) (va_A [(am 0, .inr (9, mf0 am)), (am 7, .inl (cI, 5, .inl (fun _ => 0)))] sz)) 0 0 (va_A [(am 0, .inr (9, mf0 am)), (am 7, .inl (cI, 5, .inl (fun _ => 0)))] sz) := by
  refine z_enter (cc := cX9_worlds) (maxL := 8) (ret := (some .int)) (by decide) rfl (Nat.le_of_ble_eq_true rfl) ?_
  intro p e s m below meth c A ls Q H locs hx hb hr hml hown hts hlocks hin hK hP hD hA hX hS hAe hQ hl
  have hown : s.vm.findClass RX9 = some m.cls := hown
  have hi9 : ∀ w ∈ wsX90, w ∈ wsX9_worlds := fun w h => List.mem_cons_of_mem _ (List.mem_append_right _ h)
  have hk0 := hts (.fieldLink RX9 125 "MonthPushModel" "thrown" "I") (by decide +kernel)
  have hk1 := hts (.constantLong RX9 505 20) (by decide +kernel)
  have hk2 := hts (.constantLong RX9 455 2) (by decide +kernel)
  have hk3 := hts (.fieldLink RX9 34 "MonthPushModel" "laws" "[I") (by decide +kernel)
  have hl : lv_has ls 8 [(0, .ref (am 0)), (1, .int p1), (2, .int p2), (3, .int p3), (4, .int p4), (5, .int p5)] := hl
  refine lv_aload_n hx hb dX9_worlds_0 rfl (lv_at hl 0 rfl) ?_
  refine lv_iconst (v := 0) hx hb dX9_worlds_1 (by decide) ?_
  refine z_put0 (D := (dC, dI)) (ci := 9) (v := .int 0) (ty := .int) (C := RX9) (T := TX9) (N := 60) hx hb hts hi9 tyX9 tyX9_ok nmX9 hown hK hP hD hS 0 rfl rfl 0 (by decide) hk0 (fun _ h9 => h9) rfl (by decide +kernel) rfl rfl rfl dX9_worlds_2 (fun H locs hP hS => ?_)
  refine lv_iload_n hx hb dX9_worlds_5 rfl (lv_at hl 1 rfl) ?_
  refine lv_iload hx hb dX9_worlds_6 (lv_at hl 4 rfl) ?_
  refine z_fini (w' := fun (u1 : Unit) => [(am 0, .inr (9, mf0 am)), (am 7, .inl (cI, 5, .inl (fun _ => 0)))]) (va_runS (As := [.int p1, .int p4]) (rest := []) ⟨hx, hb, hml, hown, hts⟩ (c_X9_isSpan_214 l dC dI cB cI cJ cZ cP cQ H.size p1 p4) (va_cwS 2 hts gX9_worlds_X9_isSpan rfl rfl rfl (by decide +kernel) ⟨Nat.le_of_ble_eq_true rfl, Nat.le_of_ble_eq_true rfl⟩) (z_pS hK hP hD zX_nil [] (by decide) rfl) rfl rfl hl.1 rfl (lv_room (Nat.le_of_ble_eq_true rfl)) dX9_worlds_8 ⟨Nat.le_of_ble_eq_true rfl, Nat.le_of_ble_eq_true rfl⟩) hP hD hS hA [] [0, 1] [0, 1] rfl rfl (by decide) (by decide) (fun _ => rfl) (by decide) (fun r2 u1 H locs hp3 hP hD hS => ?_)
  have hP : va_P (dC, dI) vwCl [(am 0, .inr (9, mf0 am)), (am 7, .inl (cI, 5, .inl (fun _ => 0)))] H := hP
  have hD : va_D A [(am 0, .inr (9, mf0 am)), (am 7, .inl (cI, 5, .inl (fun _ => 0)))] := hD
  refine W.widen (k := 0) (n := 0) (by decide) (by decide) ?_
  rcases hp3 with ⟨rfl, f4⟩ | ⟨rfl, f5, f6⟩ | ⟨rfl, f7, f8, f9⟩ | ⟨rfl, f10, f11, f12, f13⟩ | ⟨rfl, f14, f15, f16, f17⟩
  · refine lv_if_eq (tgt := 46) hx hb dX9_worlds_11 (by decide) (fun _ => ?_) (fun c => absurd (by decide) c)
    refine lv_bipush (v := (-2)) hx hb dX9_worlds_46 (by decide) ?_
    have hP9 := hP.sub (ws' := []) [] rfl
    have hD9 := hD.sub (ws' := []) [] (by decide) rfl
    exact z_iret () hx hb hr hlocks hK hP9 hD9 hS hAe hQ rfl (Or.inl (⟨rfl, f4⟩)) dX9_worlds_48
  · refine lv_if_eq (tgt := 46) hx hb dX9_worlds_11 (by decide) (fun _ => ?_) (fun c => absurd (by decide) c)
    refine lv_bipush (v := (-2)) hx hb dX9_worlds_46 (by decide) ?_
    have hP9 := hP.sub (ws' := []) [] rfl
    have hD9 := hD.sub (ws' := []) [] (by decide) rfl
    exact z_iret () hx hb hr hlocks hK hP9 hD9 hS hAe hQ rfl (Or.inr (Or.inl ⟨rfl, f5, f6⟩)) dX9_worlds_48
  · refine lv_if_eq (tgt := 46) hx hb dX9_worlds_11 (by decide) (fun _ => ?_) (fun c => absurd (by decide) c)
    refine lv_bipush (v := (-2)) hx hb dX9_worlds_46 (by decide) ?_
    have hP9 := hP.sub (ws' := []) [] rfl
    have hD9 := hD.sub (ws' := []) [] (by decide) rfl
    exact z_iret () hx hb hr hlocks hK hP9 hD9 hS hAe hQ rfl (Or.inr (Or.inr (Or.inl ⟨rfl, f7, f8, f9⟩))) dX9_worlds_48
  · refine lv_if_eq (tgt := 46) hx hb dX9_worlds_11 (by decide) (fun _ => ?_) (fun c => absurd (by decide) c)
    refine lv_bipush (v := (-2)) hx hb dX9_worlds_46 (by decide) ?_
    have hP9 := hP.sub (ws' := []) [] rfl
    have hD9 := hD.sub (ws' := []) [] (by decide) rfl
    exact z_iret () hx hb hr hlocks hK hP9 hD9 hS hAe hQ rfl (Or.inr (Or.inr (Or.inr (Or.inl ⟨rfl, f10, f11, f12, f13⟩)))) dX9_worlds_48
  · refine lv_if_eq (tgt := 46) hx hb dX9_worlds_11 (by decide) (fun c => absurd c (by decide)) (fun _ => ?_)
    refine lv_iload_n hx hb dX9_worlds_14 rfl (lv_at hl 2 rfl) ?_
    refine z_fini (w' := fun (u18 : Unit) => [(am 0, .inr (9, mf0 am)), (am 7, .inl (cI, 5, .inl (fun _ => 0)))]) (va_runS (As := [.int p2]) (rest := []) ⟨hx, hb, hml, hown, hts⟩ (c_X9_isSeed_173 l dC dI cB cI cJ cZ cP cQ H.size p2) (va_cwS 1 hts gX9_worlds_X9_isSeed rfl rfl rfl (by decide +kernel) ⟨Nat.le_of_ble_eq_true rfl, Nat.le_of_ble_eq_true rfl⟩) (z_pS hK hP hD zX_nil [] (by decide) rfl) rfl rfl hl.1 rfl (lv_room (Nat.le_of_ble_eq_true rfl)) dX9_worlds_15 ⟨Nat.le_of_ble_eq_true rfl, Nat.le_of_ble_eq_true rfl⟩) hP hD hS hA [] [0, 1] [0, 1] rfl rfl (by decide) (by decide) (fun _ => rfl) (by decide) (fun r19 u18 H locs hp20 hP hD hS => ?_)
    have hP : va_P (dC, dI) vwCl [(am 0, .inr (9, mf0 am)), (am 7, .inl (cI, 5, .inl (fun _ => 0)))] H := hP
    have hD : va_D A [(am 0, .inr (9, mf0 am)), (am 7, .inl (cI, 5, .inl (fun _ => 0)))] := hD
    refine W.widen (k := 0) (n := 0) (by decide) (by decide) ?_
    rcases hp20 with ⟨rfl, f21⟩ | ⟨rfl, f22, f23⟩ | ⟨rfl, f24, f25⟩
    · refine lv_if_eq (tgt := 46) hx hb dX9_worlds_18 (by decide) (fun _ => ?_) (fun c => absurd (by decide) c)
      refine lv_bipush (v := (-2)) hx hb dX9_worlds_46 (by decide) ?_
      have hP9 := hP.sub (ws' := []) [] rfl
      have hD9 := hD.sub (ws' := []) [] (by decide) rfl
      exact z_iret () hx hb hr hlocks hK hP9 hD9 hS hAe hQ rfl (Or.inr (Or.inr (Or.inr (Or.inr (Or.inl ⟨rfl, f14, f15, f16, f17, f21⟩))))) dX9_worlds_48
    · refine lv_if_eq (tgt := 46) hx hb dX9_worlds_18 (by decide) (fun _ => ?_) (fun c => absurd (by decide) c)
      refine lv_bipush (v := (-2)) hx hb dX9_worlds_46 (by decide) ?_
      have hP9 := hP.sub (ws' := []) [] rfl
      have hD9 := hD.sub (ws' := []) [] (by decide) rfl
      exact z_iret () hx hb hr hlocks hK hP9 hD9 hS hAe hQ rfl (Or.inr (Or.inr (Or.inr (Or.inr (Or.inr (Or.inl ⟨rfl, f14, f15, f16, f17, f22, f23⟩)))))) dX9_worlds_48
    · refine lv_if_eq (tgt := 46) hx hb dX9_worlds_18 (by decide) (fun c => absurd c (by decide)) (fun _ => ?_)
      refine lv_iload_n hx hb dX9_worlds_21 rfl (lv_at hl 3 rfl) ?_
      refine lv_i2l hx hb dX9_worlds_22 rfl ?_
      refine lv_lconst (v := 1) hx hb dX9_worlds_23 (by decide) ?_
      refine lv_ldc2 hx hb hown hk1 dX9_worlds_24 ?_
      refine z_fini (w' := fun (u26 : Unit) => [(am 0, .inr (9, mf0 am)), (am 7, .inl (cI, 5, .inl (fun _ => 0)))]) (va_runS (As := [.long p3.toInt64, .long 1, .long 20]) (rest := []) ⟨hx, hb, hml, hown, hts⟩ (c_X9_in_246 l dC dI cB cI cJ cZ cP cQ H.size p3) (va_cwS 3 hts gX9_worlds_X9_in rfl rfl rfl (by decide +kernel) ⟨Nat.le_of_ble_eq_true rfl, Nat.le_of_ble_eq_true rfl⟩) (z_pS hK hP hD zX_nil [] (by decide) rfl) rfl rfl hl.1 rfl (lv_room (Nat.le_of_ble_eq_true rfl)) dX9_worlds_27 ⟨Nat.le_of_ble_eq_true rfl, Nat.le_of_ble_eq_true rfl⟩) hP hD hS hA [] [0, 1] [0, 1] rfl rfl (by decide) (by decide) (fun _ => rfl) (by decide) (fun r27 u26 H locs hp28 hP hD hS => ?_)
      have hP : va_P (dC, dI) vwCl [(am 0, .inr (9, mf0 am)), (am 7, .inl (cI, 5, .inl (fun _ => 0)))] H := hP
      have hD : va_D A [(am 0, .inr (9, mf0 am)), (am 7, .inl (cI, 5, .inl (fun _ => 0)))] := hD
      refine W.widen (k := 0) (n := 0) (by decide) (by decide) ?_
      rcases hp28 with ⟨rfl, f29⟩ | ⟨rfl, f30, f31⟩ | ⟨rfl, f32, f33⟩
      · refine lv_if_eq (tgt := 46) hx hb dX9_worlds_30 (by decide) (fun _ => ?_) (fun c => absurd (by decide) c)
        refine lv_bipush (v := (-2)) hx hb dX9_worlds_46 (by decide) ?_
        have hP9 := hP.sub (ws' := []) [] rfl
        have hD9 := hD.sub (ws' := []) [] (by decide) rfl
        exact z_iret () hx hb hr hlocks hK hP9 hD9 hS hAe hQ rfl (Or.inr (Or.inr (Or.inr (Or.inr (Or.inr (Or.inr (Or.inl ⟨rfl, f14, f15, f16, f17, f24, f25, f29⟩))))))) dX9_worlds_48
      · refine lv_if_eq (tgt := 46) hx hb dX9_worlds_30 (by decide) (fun _ => ?_) (fun c => absurd (by decide) c)
        refine lv_bipush (v := (-2)) hx hb dX9_worlds_46 (by decide) ?_
        have hP9 := hP.sub (ws' := []) [] rfl
        have hD9 := hD.sub (ws' := []) [] (by decide) rfl
        exact z_iret () hx hb hr hlocks hK hP9 hD9 hS hAe hQ rfl (Or.inr (Or.inr (Or.inr (Or.inr (Or.inr (Or.inr (Or.inr (Or.inl ⟨rfl, f14, f15, f16, f17, f24, f25, f30, f31⟩)))))))) dX9_worlds_48
      · refine lv_if_eq (tgt := 46) hx hb dX9_worlds_30 (by decide) (fun c => absurd c (by decide)) (fun _ => ?_)
        refine lv_iload hx hb dX9_worlds_33 (lv_at hl 5 rfl) ?_
        refine lv_i2l hx hb dX9_worlds_35 rfl ?_
        refine lv_lconst (v := 0) hx hb dX9_worlds_36 (by decide) ?_
        refine lv_ldc2 hx hb hown hk2 dX9_worlds_37 ?_
        refine z_fini (w' := fun (u34 : Unit) => [(am 0, .inr (9, mf0 am)), (am 7, .inl (cI, 5, .inl (fun _ => 0)))]) (va_runS (As := [.long p5.toInt64, .long 0, .long 2]) (rest := []) ⟨hx, hb, hml, hown, hts⟩ (c_X9_in_222 l dC dI cB cI cJ cZ cP cQ H.size p5) (va_cwS 3 hts gX9_worlds_X9_in rfl rfl rfl (by decide +kernel) ⟨Nat.le_of_ble_eq_true rfl, Nat.le_of_ble_eq_true rfl⟩) (z_pS hK hP hD zX_nil [] (by decide) rfl) rfl rfl hl.1 rfl (lv_room (Nat.le_of_ble_eq_true rfl)) dX9_worlds_40 ⟨Nat.le_of_ble_eq_true rfl, Nat.le_of_ble_eq_true rfl⟩) hP hD hS hA [] [0, 1] [0, 1] rfl rfl (by decide) (by decide) (fun _ => rfl) (by decide) (fun r35 u34 H locs hp36 hP hD hS => ?_)
        have hP : va_P (dC, dI) vwCl [(am 0, .inr (9, mf0 am)), (am 7, .inl (cI, 5, .inl (fun _ => 0)))] H := hP
        have hD : va_D A [(am 0, .inr (9, mf0 am)), (am 7, .inl (cI, 5, .inl (fun _ => 0)))] := hD
        refine W.widen (k := 0) (n := 0) (by decide) (by decide) ?_
        rcases hp36 with ⟨rfl, f37⟩ | ⟨rfl, f38, f39⟩ | ⟨rfl, f40, f41⟩
        · refine lv_if_ne (tgt := 49) hx hb dX9_worlds_43 (by decide) (fun c => absurd (by decide) c) (fun _ => ?_)
          refine lv_bipush (v := (-2)) hx hb dX9_worlds_46 (by decide) ?_
          have hP9 := hP.sub (ws' := []) [] rfl
          have hD9 := hD.sub (ws' := []) [] (by decide) rfl
          exact z_iret () hx hb hr hlocks hK hP9 hD9 hS hAe hQ rfl (Or.inr (Or.inr (Or.inr (Or.inr (Or.inr (Or.inr (Or.inr (Or.inr (Or.inl ⟨rfl, f14, f15, f16, f17, f24, f25, f32, f33, f37⟩))))))))) dX9_worlds_48
        · refine lv_if_ne (tgt := 49) hx hb dX9_worlds_43 (by decide) (fun c => absurd (by decide) c) (fun _ => ?_)
          refine lv_bipush (v := (-2)) hx hb dX9_worlds_46 (by decide) ?_
          have hP9 := hP.sub (ws' := []) [] rfl
          have hD9 := hD.sub (ws' := []) [] (by decide) rfl
          exact z_iret () hx hb hr hlocks hK hP9 hD9 hS hAe hQ rfl (Or.inr (Or.inr (Or.inr (Or.inr (Or.inr (Or.inr (Or.inr (Or.inr (Or.inr (Or.inl ⟨rfl, f14, f15, f16, f17, f24, f25, f32, f33, f38, f39⟩)))))))))) dX9_worlds_48
        · refine lv_if_ne (tgt := 49) hx hb dX9_worlds_43 (by decide) (fun _ => ?_) (fun c => absurd c (by decide))
          refine lv_aload_n hx hb dX9_worlds_49 rfl (lv_at hl 0 rfl) ?_
          refine va_get (D := (dC, dI)) (ci := 9) (v := .ref (am 7)) (C := RX9) (T := TX9) (N := 60) hx hb hts hi9 hown hK hP 0 rfl rfl 17 (by decide) hk3 (fun _ h9 => h9) rfl dX9_worlds_50 ?_
          refine lv_iconst (v := 0) hx hb dX9_worlds_53 (by decide) ?_
          refine va_iald hx hb hK hP 1 1 rfl rfl (z_in (a := 0) (by decide) (by decide) (by decide)) dX9_worlds_54 ?_
          refine z_topi (y := 0) rfl ?_
          refine lv_if_eq (tgt := 76) hx hb dX9_worlds_55 (by decide) (fun _ => ?_) (fun c => absurd (by decide) c)
          refine lv_bipush (v := (-6)) hx hb dX9_worlds_76 (by decide) ?_
          have hP9 := hP.sub (ws' := []) [] rfl
          have hD9 := hD.sub (ws' := []) [] (by decide) rfl
          exact z_iret () hx hb hr hlocks hK hP9 hD9 hS hAe hQ rfl (Or.inr (Or.inr (Or.inr (Or.inr (Or.inr (Or.inr (Or.inr (Or.inr (Or.inr (Or.inr ⟨rfl, f14, f15, f16, f17, f24, f25, f32, f33, f40, f41⟩)))))))))) dX9_worlds_78
set_option maxHeartbeats 4000000 in
set_option maxRecDepth 100000 in
theorem c_X9_only_247 (l : Launch) (dC : Nat → ClassId) (dI : Nat → Nat → Nat) (cB cI cJ cZ cP cQ : ClassId) (am : Nat → Nat) (sz : Nat) (p1 : Int32) : Met l yX9_only wsX9_only ({ frames := 2, cells := 0, slots := 0, locals := 46 } : Room) (zPc [.ref (am 0), .int p1] (dC, dI) (zT cB cI cJ cZ cP cQ) [(am 0, .inr (9, mf0 am)), (am 7, .inl (cI, 5, .inl (fun _ => 0)))] sz [] []) (va_Qi (fun r _ => (fun r => (r = (-2) ∧ p1.toInt < 0) ∨ (r = (-2) ∧ 0 ≤ p1.toInt)) r) (zB (dC, dI) (zT cB cI cJ cZ cP cQ) (fun _ : Unit => []) [(am 0, .inr (9, mf0 am)), (am 7, .inl (cI, 5, .inl (fun _ => 0)))] sz) (va_A [(am 0, .inr (9, mf0 am)), (am 7, .inl (cI, 5, .inl (fun _ => 0)))] sz)) 0 0 (va_A [(am 0, .inr (9, mf0 am)), (am 7, .inl (cI, 5, .inl (fun _ => 0)))] sz) := by
  refine z_enter (cc := cX9_only) (maxL := 4) (ret := (some .int)) (by decide) rfl (Nat.le_of_ble_eq_true rfl) ?_
  intro p e s m below meth c A ls Q H locs hx hb hr hml hown hts hlocks hin hK hP hD hA hX hS hAe hQ hl
  have hown : s.vm.findClass RX9 = some m.cls := hown
  have hi9 : ∀ w ∈ wsX90, w ∈ wsX9_only := fun w h => List.mem_cons_of_mem _ (List.mem_append_right _ h)
  have hk0 := hts (.fieldLink RX9 125 "MonthPushModel" "thrown" "I") (by decide +kernel)
  have hl : lv_has ls 4 [(0, .ref (am 0)), (1, .int p1)] := hl
  refine lv_aload_n hx hb dX9_only_0 rfl (lv_at hl 0 rfl) ?_
  refine lv_iconst (v := 0) hx hb dX9_only_1 (by decide) ?_
  refine z_put0 (D := (dC, dI)) (ci := 9) (v := .int 0) (ty := .int) (C := RX9) (T := TX9) (N := 60) hx hb hts hi9 tyX9 tyX9_ok nmX9 hown hK hP hD hS 0 rfl rfl 0 (by decide) hk0 (fun _ h9 => h9) rfl (by decide +kernel) rfl rfl rfl dX9_only_2 (fun H locs hP hS => ?_)
  refine lv_aload_n hx hb dX9_only_5 rfl (lv_at hl 0 rfl) ?_
  refine lv_iload_n hx hb dX9_only_6 rfl (lv_at hl 1 rfl) ?_
  refine z_fini (w' := fun (u1 : Unit) => [(am 0, .inr (9, mf0 am)), (am 7, .inl (cI, 5, .inl (fun _ => 0)))]) (va_runV (As := [.int p1]) (rest := []) ⟨hx, hb, hml, hown, hts⟩ (c_X9_isState_164 l dC dI cB cI cJ cZ cP cQ am H.size p1) (cwV 1 hts gX9_only_X9_isState rfl rfl rfl (by decide +kernel) ⟨Nat.le_of_ble_eq_true rfl, Nat.le_of_ble_eq_true rfl⟩) (z_pV (ci := 9) hK hP hD zX_nil [0, 1] (by decide) rfl rfl 0 rfl) rfl rfl hl.1 rfl (lv_room (Nat.le_of_ble_eq_true rfl)) dX9_only_7 ⟨Nat.le_of_ble_eq_true rfl, Nat.le_of_ble_eq_true rfl⟩) hP hD hS hA [0, 1] [] [0, 1] rfl rfl (by decide) (by decide) (fun _ => rfl) (by decide) (fun r2 u1 H locs hp3 hP hD hS => ?_)
  have hP : va_P (dC, dI) vwCl [(am 0, .inr (9, mf0 am)), (am 7, .inl (cI, 5, .inl (fun _ => 0)))] H := hP
  have hD : va_D A [(am 0, .inr (9, mf0 am)), (am 7, .inl (cI, 5, .inl (fun _ => 0)))] := hD
  refine W.widen (k := 0) (n := 0) (by decide) (by decide) ?_
  rcases hp3 with ⟨rfl, f4⟩ | ⟨rfl, f5⟩
  · refine lv_if_ne (tgt := 16) hx hb dX9_only_10 (by decide) (fun c => absurd (by decide) c) (fun _ => ?_)
    refine lv_bipush (v := (-2)) hx hb dX9_only_13 (by decide) ?_
    have hP9 := hP.sub (ws' := []) [] rfl
    have hD9 := hD.sub (ws' := []) [] (by decide) rfl
    exact z_iret () hx hb hr hlocks hK hP9 hD9 hS hAe hQ rfl (Or.inl (⟨rfl, f4⟩)) dX9_only_15
  · refine lv_if_ne (tgt := 16) hx hb dX9_only_10 (by decide) (fun c => absurd (by decide) c) (fun _ => ?_)
    refine lv_bipush (v := (-2)) hx hb dX9_only_13 (by decide) ?_
    have hP9 := hP.sub (ws' := []) [] rfl
    have hD9 := hD.sub (ws' := []) [] (by decide) rfl
    exact z_iret () hx hb hr hlocks hK hP9 hD9 hS hAe hQ rfl (Or.inr ⟨rfl, f5⟩) dX9_only_15
