set_option maxHeartbeats 4000000 in
set_option maxRecDepth 100000 in
theorem c_X9_judge_248 (l : Launch) (dC : Nat → ClassId) (dI : Nat → Nat → Nat) (cB cI cJ cZ cP cQ : ClassId) (am : Nat → Nat) (sz : Nat) (p1 : Int32) : Met l yX9_judge wsX9_judge ({ frames := 2, cells := 0, slots := 0, locals := 45 } : Room) (zPc [.ref (am 0), .int p1] (dC, dI) (zT cB cI cJ cZ cP cQ) [(am 0, .inr (9, mf0 am)), (am 1, .inl (cI, 4, .inl (fun _ => (-1))))] sz [] []) (va_Qi (fun r _ => (fun r => (r = (-2) ∧ p1.toInt < 0) ∨ (r = (-2) ∧ 0 ≤ p1.toInt ∧ 3 < p1.toInt) ∨ (r = (-6) ∧ 0 ≤ p1.toInt ∧ p1.toInt ≤ 3)) r) (zB (dC, dI) (zT cB cI cJ cZ cP cQ) (fun _ : Unit => []) [(am 0, .inr (9, mf0 am)), (am 1, .inl (cI, 4, .inl (fun _ => (-1))))] sz) (va_A [(am 0, .inr (9, mf0 am)), (am 1, .inl (cI, 4, .inl (fun _ => (-1))))] sz)) 0 0 (va_A [(am 0, .inr (9, mf0 am)), (am 1, .inl (cI, 4, .inl (fun _ => (-1))))] sz) := by
  refine z_enter (cc := cX9_judge) (maxL := 3) (ret := (some .int)) (by decide) rfl (Nat.le_of_ble_eq_true rfl) ?_
  intro p e s m below meth c A ls Q H locs hx hb hr hml hown hts hlocks hin hK hP hD hA hX hS hAe hQ hl
  have hown : s.vm.findClass RX9 = some m.cls := hown
  have hi9 : ∀ w ∈ wsX90, w ∈ wsX9_judge := fun w h => List.mem_cons_of_mem _ (List.mem_append_right _ h)
  have hk0 := hts (.fieldLink RX9 125 "MonthPushModel" "thrown" "I") (by decide +kernel)
  have hk1 := hts (.fieldLink RX9 7 "MonthPushModel" "width" "[I") (by decide +kernel)
  have hl : lv_has ls 3 [(0, .ref (am 0)), (1, .int p1)] := hl
  refine lv_aload_n hx hb dX9_judge_0 rfl (lv_at hl 0 rfl) ?_
  refine lv_iconst (v := 0) hx hb dX9_judge_1 (by decide) ?_
  refine z_put0 (D := (dC, dI)) (ci := 9) (v := .int 0) (ty := .int) (C := RX9) (T := TX9) (N := 60) hx hb hts hi9 tyX9 tyX9_ok nmX9 hown hK hP hD hS 0 rfl rfl 0 (by decide) hk0 (fun _ h9 => h9) rfl (by decide +kernel) rfl rfl rfl dX9_judge_2 (fun H locs hP hS => ?_)
  refine lv_iload_n hx hb dX9_judge_5 rfl (lv_at hl 1 rfl) ?_
  refine z_fini (w' := fun (u1 : Unit) => [(am 0, .inr (9, mf0 am)), (am 1, .inl (cI, 4, .inl (fun _ => (-1))))]) (va_runS (As := [.int p1]) (rest := []) ⟨hx, hb, hml, hown, hts⟩ (c_X9_isSlot_142 l dC dI cB cI cJ cZ cP cQ H.size p1) (va_cwS 1 hts gX9_judge_X9_isSlot rfl rfl rfl (by decide +kernel) ⟨Nat.le_of_ble_eq_true rfl, Nat.le_of_ble_eq_true rfl⟩) (z_pS hK hP hD zX_nil [] (by decide) rfl) rfl rfl hl.1 rfl (lv_room (Nat.le_of_ble_eq_true rfl)) dX9_judge_6 ⟨Nat.le_of_ble_eq_true rfl, Nat.le_of_ble_eq_true rfl⟩) hP hD hS hA [] [0, 1] [0, 1] rfl rfl (by decide) (by decide) (fun _ => rfl) (by decide) (fun r2 u1 H locs hp3 hP hD hS => ?_)
  have hP : va_P (dC, dI) vwCl [(am 0, .inr (9, mf0 am)), (am 1, .inl (cI, 4, .inl (fun _ => (-1))))] H := hP
  have hD : va_D A [(am 0, .inr (9, mf0 am)), (am 1, .inl (cI, 4, .inl (fun _ => (-1))))] := hD
  refine W.widen (k := 0) (n := 0) (by decide) (by decide) ?_
  rcases hp3 with ⟨rfl, f4⟩ | ⟨rfl, f5, f6⟩ | ⟨rfl, f7, f8⟩
  · refine lv_if_ne (tgt := 15) hx hb dX9_judge_9 (by decide) (fun c => absurd (by decide) c) (fun _ => ?_)
    refine lv_bipush (v := (-2)) hx hb dX9_judge_12 (by decide) ?_
    have hP9 := hP.sub (ws' := []) [] rfl
    have hD9 := hD.sub (ws' := []) [] (by decide) rfl
    exact z_iret () hx hb hr hlocks hK hP9 hD9 hS hAe hQ rfl (Or.inl (⟨rfl, f4⟩)) dX9_judge_14
  · refine lv_if_ne (tgt := 15) hx hb dX9_judge_9 (by decide) (fun c => absurd (by decide) c) (fun _ => ?_)
    refine lv_bipush (v := (-2)) hx hb dX9_judge_12 (by decide) ?_
    have hP9 := hP.sub (ws' := []) [] rfl
    have hD9 := hD.sub (ws' := []) [] (by decide) rfl
    exact z_iret () hx hb hr hlocks hK hP9 hD9 hS hAe hQ rfl (Or.inr (Or.inl ⟨rfl, f5, f6⟩)) dX9_judge_14
  · refine lv_if_ne (tgt := 15) hx hb dX9_judge_9 (by decide) (fun _ => ?_) (fun c => absurd c (by decide))
    refine lv_aload_n hx hb dX9_judge_15 rfl (lv_at hl 0 rfl) ?_
    refine va_get (D := (dC, dI)) (ci := 9) (v := .ref (am 1)) (C := RX9) (T := TX9) (N := 60) hx hb hts hi9 hown hK hP 0 rfl rfl 1 (by decide) hk1 (fun _ h9 => h9) rfl dX9_judge_16 ?_
    refine lv_iload_n hx hb dX9_judge_19 rfl (lv_at hl 1 rfl) ?_
    refine va_iald hx hb hK hP 1 1 rfl rfl (z_in rfl (by omega) (by omega)) dX9_judge_20 ?_
    refine z_topi (y := (-1)) rfl ?_
    refine lv_iconst (v := (-1)) hx hb dX9_judge_21 (by decide) ?_
    refine lv_icmp_ne (tgt := 28) hx hb dX9_judge_22 (by decide) (fun c => absurd (by decide) c) (fun _ => ?_)
    refine lv_bipush (v := (-6)) hx hb dX9_judge_25 (by decide) ?_
    have hP9 := hP.sub (ws' := []) [] rfl
    have hD9 := hD.sub (ws' := []) [] (by decide) rfl
    exact z_iret () hx hb hr hlocks hK hP9 hD9 hS hAe hQ rfl (Or.inr (Or.inr ⟨rfl, f7, f8⟩)) dX9_judge_27
set_option maxHeartbeats 4000000 in
set_option maxRecDepth 100000 in
theorem c_X9_count_249 (l : Launch) (dC : Nat → ClassId) (dI : Nat → Nat → Nat) (cB cI cJ cZ cP cQ : ClassId) (am : Nat → Nat) (sz : Nat) (p1 : Int32) : Met l yX9_count wsX9_count ({ frames := 0, cells := 0, slots := 0, locals := 0 } : Room) (zPc [.ref (am 0), .int p1] (dC, dI) (zT cB cI cJ cZ cP cQ) [(am 0, .inr (9, mf0 am)), (am 1, .inl (cI, 4, .inl (fun _ => (-1)))), (am 6, .inl (cI, 5, .inl (fun _ => 0))), (am 7, .inl (cI, 5, .inl (fun _ => 0))), (am 10, .inl (cI, 5, .inl (fun _ => 0))), (am 19, .inl (cI, 5, .inl (fun _ => 0))), (am 20, .inl (cI, 5, .inl (fun _ => 0))), (am 25, .inl (cI, 5, .inl (fun _ => 0)))] sz [] []) (va_Qi (fun r _ => (fun r => (r = 0 ∧ p1.toInt = 0) ∨ (r = 0 ∧ p1.toInt = 1) ∨ (r = 0 ∧ p1.toInt = 2) ∨ (r = 0 ∧ p1.toInt = 3) ∨ (r = 0 ∧ p1.toInt = 4) ∨ (r = 0 ∧ p1.toInt = 5) ∨ (r = 0 ∧ p1.toInt = 6) ∨ (r = 0 ∧ p1.toInt = 7) ∨ (r = (-1) ∧ (p1.toInt < 0 ∨ 7 < p1.toInt))) r) (zB (dC, dI) (zT cB cI cJ cZ cP cQ) (fun _ : Unit => []) [(am 0, .inr (9, mf0 am)), (am 1, .inl (cI, 4, .inl (fun _ => (-1)))), (am 6, .inl (cI, 5, .inl (fun _ => 0))), (am 7, .inl (cI, 5, .inl (fun _ => 0))), (am 10, .inl (cI, 5, .inl (fun _ => 0))), (am 19, .inl (cI, 5, .inl (fun _ => 0))), (am 20, .inl (cI, 5, .inl (fun _ => 0))), (am 25, .inl (cI, 5, .inl (fun _ => 0)))] sz) (va_A [(am 0, .inr (9, mf0 am)), (am 1, .inl (cI, 4, .inl (fun _ => (-1)))), (am 6, .inl (cI, 5, .inl (fun _ => 0))), (am 7, .inl (cI, 5, .inl (fun _ => 0))), (am 10, .inl (cI, 5, .inl (fun _ => 0))), (am 19, .inl (cI, 5, .inl (fun _ => 0))), (am 20, .inl (cI, 5, .inl (fun _ => 0))), (am 25, .inl (cI, 5, .inl (fun _ => 0)))] sz)) 0 0 (va_A [(am 0, .inr (9, mf0 am)), (am 1, .inl (cI, 4, .inl (fun _ => (-1)))), (am 6, .inl (cI, 5, .inl (fun _ => 0))), (am 7, .inl (cI, 5, .inl (fun _ => 0))), (am 10, .inl (cI, 5, .inl (fun _ => 0))), (am 19, .inl (cI, 5, .inl (fun _ => 0))), (am 20, .inl (cI, 5, .inl (fun _ => 0))), (am 25, .inl (cI, 5, .inl (fun _ => 0)))] sz) := by
  refine z_enter (cc := cX9_count) (maxL := 4) (ret := (some .int)) (by decide) rfl (Nat.le_of_ble_eq_true rfl) ?_
  intro p e s m below meth c A ls Q H locs hx hb hr hml hown hts hlocks hin hK hP hD hA hX hS hAe hQ hl
  have hown : s.vm.findClass RX9 = some m.cls := hown
  have hi9 : ∀ w ∈ wsX90, w ∈ wsX9_count := fun w h => List.mem_cons_of_mem _ (List.mem_append_right _ h)
  have hk0 := hts (.fieldLink RX9 125 "MonthPushModel" "thrown" "I") (by decide +kernel)
  have hk1 := hts (.fieldLink RX9 34 "MonthPushModel" "laws" "[I") (by decide +kernel)
  have hk2 := hts (.fieldLink RX9 43 "MonthPushModel" "sorts" "[I") (by decide +kernel)
  have hk3 := hts (.fieldLink RX9 89 "MonthPushModel" "sheets" "[I") (by decide +kernel)
  have hk4 := hts (.fieldLink RX9 31 "MonthPushModel" "lines" "[I") (by decide +kernel)
  have hk5 := hts (.fieldLink RX9 74 "MonthPushModel" "parts" "[I") (by decide +kernel)
  have hk6 := hts (.fieldLink RX9 71 "MonthPushModel" "noise" "[I") (by decide +kernel)
  have hk7 := hts (.fieldLink RX9 142 "MonthPushModel" "taped" "I") (by decide +kernel)
  have hk8 := hts (.fieldLink RX9 7 "MonthPushModel" "width" "[I") (by decide +kernel)
  have hl : lv_has ls 4 [(0, .ref (am 0)), (1, .int p1)] := hl
  refine lv_aload_n hx hb dX9_count_0 rfl (lv_at hl 0 rfl) ?_
  refine lv_iconst (v := 0) hx hb dX9_count_1 (by decide) ?_
  refine z_put0 (D := (dC, dI)) (ci := 9) (v := .int 0) (ty := .int) (C := RX9) (T := TX9) (N := 60) hx hb hts hi9 tyX9 tyX9_ok nmX9 hown hK hP hD hS 0 rfl rfl 0 (by decide) hk0 (fun _ h9 => h9) rfl (by decide +kernel) rfl rfl rfl dX9_count_2 (fun H locs hP hS => ?_)
  refine lv_iconst (v := 0) hx hb dX9_count_5 (by decide) ?_
  refine lv_istore_n (lv' := [(2, .int 0), (0, .ref (am 0)), (1, .int p1)]) hx hb dX9_count_6 rfl hl (by decide) rfl (fun ls hl => ?_)
  refine lv_iload_n hx hb dX9_count_7 rfl (lv_at hl 2 rfl) ?_
  rcases (show p1.toInt = 0 ∨ p1.toInt = 1 ∨ p1.toInt = 2 ∨ p1.toInt = 3 ∨ p1.toInt = 4 ∨ p1.toInt = 5 ∨ p1.toInt = 6 ∨ p1.toInt = 7 ∨ (p1.toInt < 0 ∨ 7 < p1.toInt) by omega) with f1 | f1 | f1 | f1 | f1 | f1 | f1 | f1 | f1
  · refine lv_tableIn (off := 48) (tgt := 56) hx hb dX9_count_8 (by rw [f1]; decide) (by rw [f1]; decide) (by rw [f1]; decide) (by decide) ?_
    refine lv_aload_n hx hb dX9_count_56 rfl (lv_at hl 1 rfl) ?_
    refine va_get (D := (dC, dI)) (ci := 9) (v := .ref (am 7)) (C := RX9) (T := TX9) (N := 60) hx hb hts hi9 hown hK hP 0 rfl rfl 17 (by decide) hk1 (fun _ h9 => h9) rfl dX9_count_57 ?_
    refine lv_iconst (v := 0) hx hb dX9_count_60 (by decide) ?_
    refine va_iald hx hb hK hP 3 1 rfl rfl (z_in (a := 0) (by decide) (by decide) (by decide)) dX9_count_61 ?_
    refine z_topi (y := 0) rfl ?_
    have hP9 := hP.sub (ws' := []) [] rfl
    have hD9 := hD.sub (ws' := []) [] (by decide) rfl
    exact z_iret () hx hb hr hlocks hK hP9 hD9 hS hAe hQ rfl (Or.inl (⟨rfl, f1⟩)) dX9_count_62
  · refine lv_tableIn (off := 55) (tgt := 63) hx hb dX9_count_8 (by rw [f1]; decide) (by rw [f1]; decide) (by rw [f1]; decide) (by decide) ?_
    refine lv_aload_n hx hb dX9_count_63 rfl (lv_at hl 1 rfl) ?_
    refine va_get (D := (dC, dI)) (ci := 9) (v := .ref (am 10)) (C := RX9) (T := TX9) (N := 60) hx hb hts hi9 hown hK hP 0 rfl rfl 20 (by decide) hk2 (fun _ h9 => h9) rfl dX9_count_64 ?_
    refine lv_iconst (v := 0) hx hb dX9_count_67 (by decide) ?_
    refine va_iald hx hb hK hP 4 1 rfl rfl (z_in (a := 0) (by decide) (by decide) (by decide)) dX9_count_68 ?_
    refine z_topi (y := 0) rfl ?_
    have hP9 := hP.sub (ws' := []) [] rfl
    have hD9 := hD.sub (ws' := []) [] (by decide) rfl
    exact z_iret () hx hb hr hlocks hK hP9 hD9 hS hAe hQ rfl (Or.inr (Or.inl ⟨rfl, f1⟩)) dX9_count_69
  · refine lv_tableIn (off := 62) (tgt := 70) hx hb dX9_count_8 (by rw [f1]; decide) (by rw [f1]; decide) (by rw [f1]; decide) (by decide) ?_
    refine lv_aload_n hx hb dX9_count_70 rfl (lv_at hl 1 rfl) ?_
    refine va_get (D := (dC, dI)) (ci := 9) (v := .ref (am 25)) (C := RX9) (T := TX9) (N := 60) hx hb hts hi9 hown hK hP 0 rfl rfl 35 (by decide) hk3 (fun _ h9 => h9) rfl dX9_count_71 ?_
    refine lv_iconst (v := 0) hx hb dX9_count_74 (by decide) ?_
    refine va_iald hx hb hK hP 7 1 rfl rfl (z_in (a := 0) (by decide) (by decide) (by decide)) dX9_count_75 ?_
    refine z_topi (y := 0) rfl ?_
    have hP9 := hP.sub (ws' := []) [] rfl
    have hD9 := hD.sub (ws' := []) [] (by decide) rfl
    exact z_iret () hx hb hr hlocks hK hP9 hD9 hS hAe hQ rfl (Or.inr (Or.inr (Or.inl ⟨rfl, f1⟩))) dX9_count_76
  · refine lv_tableIn (off := 69) (tgt := 77) hx hb dX9_count_8 (by rw [f1]; decide) (by rw [f1]; decide) (by rw [f1]; decide) (by decide) ?_
    refine lv_aload_n hx hb dX9_count_77 rfl (lv_at hl 1 rfl) ?_
    refine va_get (D := (dC, dI)) (ci := 9) (v := .ref (am 6)) (C := RX9) (T := TX9) (N := 60) hx hb hts hi9 hown hK hP 0 rfl rfl 16 (by decide) hk4 (fun _ h9 => h9) rfl dX9_count_78 ?_
    refine lv_iconst (v := 0) hx hb dX9_count_81 (by decide) ?_
    refine va_iald hx hb hK hP 2 1 rfl rfl (z_in (a := 0) (by decide) (by decide) (by decide)) dX9_count_82 ?_
    refine z_topi (y := 0) rfl ?_
    have hP9 := hP.sub (ws' := []) [] rfl
    have hD9 := hD.sub (ws' := []) [] (by decide) rfl
    exact z_iret () hx hb hr hlocks hK hP9 hD9 hS hAe hQ rfl (Or.inr (Or.inr (Or.inr (Or.inl ⟨rfl, f1⟩)))) dX9_count_83
  · refine lv_tableIn (off := 76) (tgt := 84) hx hb dX9_count_8 (by rw [f1]; decide) (by rw [f1]; decide) (by rw [f1]; decide) (by decide) ?_
    refine lv_aload_n hx hb dX9_count_84 rfl (lv_at hl 1 rfl) ?_
    refine va_get (D := (dC, dI)) (ci := 9) (v := .ref (am 20)) (C := RX9) (T := TX9) (N := 60) hx hb hts hi9 hown hK hP 0 rfl rfl 30 (by decide) hk5 (fun _ h9 => h9) rfl dX9_count_85 ?_
    refine lv_iconst (v := 0) hx hb dX9_count_88 (by decide) ?_
    refine va_iald hx hb hK hP 6 1 rfl rfl (z_in (a := 0) (by decide) (by decide) (by decide)) dX9_count_89 ?_
    refine z_topi (y := 0) rfl ?_
    have hP9 := hP.sub (ws' := []) [] rfl
    have hD9 := hD.sub (ws' := []) [] (by decide) rfl
    exact z_iret () hx hb hr hlocks hK hP9 hD9 hS hAe hQ rfl (Or.inr (Or.inr (Or.inr (Or.inr (Or.inl ⟨rfl, f1⟩))))) dX9_count_90
  · refine lv_tableIn (off := 83) (tgt := 91) hx hb dX9_count_8 (by rw [f1]; decide) (by rw [f1]; decide) (by rw [f1]; decide) (by decide) ?_
    refine lv_aload_n hx hb dX9_count_91 rfl (lv_at hl 1 rfl) ?_
    refine va_get (D := (dC, dI)) (ci := 9) (v := .ref (am 19)) (C := RX9) (T := TX9) (N := 60) hx hb hts hi9 hown hK hP 0 rfl rfl 29 (by decide) hk6 (fun _ h9 => h9) rfl dX9_count_92 ?_
    refine lv_iconst (v := 0) hx hb dX9_count_95 (by decide) ?_
    refine va_iald hx hb hK hP 5 1 rfl rfl (z_in (a := 0) (by decide) (by decide) (by decide)) dX9_count_96 ?_
    refine z_topi (y := 0) rfl ?_
    have hP9 := hP.sub (ws' := []) [] rfl
    have hD9 := hD.sub (ws' := []) [] (by decide) rfl
    exact z_iret () hx hb hr hlocks hK hP9 hD9 hS hAe hQ rfl (Or.inr (Or.inr (Or.inr (Or.inr (Or.inr (Or.inl ⟨rfl, f1⟩)))))) dX9_count_97
  · refine lv_tableIn (off := 90) (tgt := 98) hx hb dX9_count_8 (by rw [f1]; decide) (by rw [f1]; decide) (by rw [f1]; decide) (by decide) ?_
    refine lv_aload_n hx hb dX9_count_98 rfl (lv_at hl 1 rfl) ?_
    refine va_get (D := (dC, dI)) (ci := 9) (v := .int 0) (C := RX9) (T := TX9) (N := 60) hx hb hts hi9 hown hK hP 0 rfl rfl 6 (by decide) hk7 (fun _ h9 => h9) rfl dX9_count_99 ?_
    have hP9 := hP.sub (ws' := []) [] rfl
    have hD9 := hD.sub (ws' := []) [] (by decide) rfl
    exact z_iret () hx hb hr hlocks hK hP9 hD9 hS hAe hQ rfl (Or.inr (Or.inr (Or.inr (Or.inr (Or.inr (Or.inr (Or.inl ⟨rfl, f1⟩))))))) dX9_count_102
  · refine lv_tableIn (off := 95) (tgt := 103) hx hb dX9_count_8 (by rw [f1]; decide) (by rw [f1]; decide) (by rw [f1]; decide) (by decide) ?_
    refine lv_iconst (v := 0) hx hb dX9_count_103 (by decide) ?_
    refine lv_istore_n (lv' := [(3, .int 0), (2, .int 0), (0, .ref (am 0)), (1, .int p1)]) hx hb dX9_count_104 rfl hl (by decide) rfl (fun ls hl => ?_)
    refine lv_iload_n hx hb dX9_count_105 rfl (lv_at hl 0 rfl) ?_
    refine lv_iconst (v := 4) hx hb dX9_count_106 (by decide) ?_
    refine lv_icmp_ge (tgt := 134) hx hb dX9_count_107 (by decide) (fun c => absurd c (by decide)) (fun _ => ?_)
    refine lv_iload_n hx hb dX9_count_110 rfl (lv_at hl 1 rfl) ?_
    refine lv_aload_n hx hb dX9_count_111 rfl (lv_at hl 2 rfl) ?_
    refine va_get (D := (dC, dI)) (ci := 9) (v := .ref (am 1)) (C := RX9) (T := TX9) (N := 60) hx hb hts hi9 hown hK hP 0 rfl rfl 1 (by decide) hk8 (fun _ h9 => h9) rfl dX9_count_112 ?_
    refine lv_iload_n hx hb dX9_count_115 rfl (lv_at hl 0 rfl) ?_
    refine va_iald hx hb hK hP 1 1 rfl rfl (z_in (a := 0) (by decide) (by decide) (by decide)) dX9_count_116 ?_
    refine z_topi (y := (-1)) rfl ?_
    refine lv_iconst (v := (-1)) hx hb dX9_count_117 (by decide) ?_
    refine lv_icmp_ne (tgt := 125) hx hb dX9_count_118 (by decide) (fun c => absurd (by decide) c) (fun _ => ?_)
    refine lv_iconst (v := 0) hx hb dX9_count_121 (by decide) ?_
    refine lv_goto (tgt := 126) hx hb dX9_count_122 (by decide) ?_
    refine lv_iadd hx hb dX9_count_126 ?_
    refine z_topi (y := 0) (by decide +kernel) ?_
    refine lv_istore_n (lv' := [(2, .int 0), (3, .int 0), (0, .ref (am 0)), (1, .int p1)]) hx hb dX9_count_127 rfl hl (by decide) rfl (fun ls hl => ?_)
    refine lv_iinc (v := 1) (lv' := [(3, .int 1), (2, .int 0), (0, .ref (am 0)), (1, .int p1)]) hx hb dX9_count_128 hl (k := 1) rfl (by decide) (by decide) rfl (fun ls hl => ?_)
    refine lv_goto (tgt := 105) hx hb dX9_count_131 (by decide) ?_
    refine lv_iload_n hx hb dX9_count_105 rfl (lv_at hl 0 rfl) ?_
    refine lv_iconst (v := 4) hx hb dX9_count_106 (by decide) ?_
    refine lv_icmp_ge (tgt := 134) hx hb dX9_count_107 (by decide) (fun c => absurd c (by decide)) (fun _ => ?_)
    refine lv_iload_n hx hb dX9_count_110 rfl (lv_at hl 1 rfl) ?_
    refine lv_aload_n hx hb dX9_count_111 rfl (lv_at hl 2 rfl) ?_
    refine va_get (D := (dC, dI)) (ci := 9) (v := .ref (am 1)) (C := RX9) (T := TX9) (N := 60) hx hb hts hi9 hown hK hP 0 rfl rfl 1 (by decide) hk8 (fun _ h9 => h9) rfl dX9_count_112 ?_
    refine lv_iload_n hx hb dX9_count_115 rfl (lv_at hl 0 rfl) ?_
    refine va_iald hx hb hK hP 1 1 rfl rfl (z_in (a := 1) (by decide) (by decide) (by decide)) dX9_count_116 ?_
    refine z_topi (y := (-1)) rfl ?_
    refine lv_iconst (v := (-1)) hx hb dX9_count_117 (by decide) ?_
    refine lv_icmp_ne (tgt := 125) hx hb dX9_count_118 (by decide) (fun c => absurd (by decide) c) (fun _ => ?_)
    refine lv_iconst (v := 0) hx hb dX9_count_121 (by decide) ?_
    refine lv_goto (tgt := 126) hx hb dX9_count_122 (by decide) ?_
    refine lv_iadd hx hb dX9_count_126 ?_
    refine z_topi (y := 0) (by decide +kernel) ?_
    refine lv_istore_n (lv' := [(2, .int 0), (3, .int 1), (0, .ref (am 0)), (1, .int p1)]) hx hb dX9_count_127 rfl hl (by decide) rfl (fun ls hl => ?_)
    refine lv_iinc (v := 2) (lv' := [(3, .int 2), (2, .int 0), (0, .ref (am 0)), (1, .int p1)]) hx hb dX9_count_128 hl (k := 1) rfl (by decide) (by decide) rfl (fun ls hl => ?_)
    refine lv_goto (tgt := 105) hx hb dX9_count_131 (by decide) ?_
    refine lv_iload_n hx hb dX9_count_105 rfl (lv_at hl 0 rfl) ?_
    refine lv_iconst (v := 4) hx hb dX9_count_106 (by decide) ?_
    refine lv_icmp_ge (tgt := 134) hx hb dX9_count_107 (by decide) (fun c => absurd c (by decide)) (fun _ => ?_)
    refine lv_iload_n hx hb dX9_count_110 rfl (lv_at hl 1 rfl) ?_
    refine lv_aload_n hx hb dX9_count_111 rfl (lv_at hl 2 rfl) ?_
    refine va_get (D := (dC, dI)) (ci := 9) (v := .ref (am 1)) (C := RX9) (T := TX9) (N := 60) hx hb hts hi9 hown hK hP 0 rfl rfl 1 (by decide) hk8 (fun _ h9 => h9) rfl dX9_count_112 ?_
    refine lv_iload_n hx hb dX9_count_115 rfl (lv_at hl 0 rfl) ?_
    refine va_iald hx hb hK hP 1 1 rfl rfl (z_in (a := 2) (by decide) (by decide) (by decide)) dX9_count_116 ?_
    refine z_topi (y := (-1)) rfl ?_
    refine lv_iconst (v := (-1)) hx hb dX9_count_117 (by decide) ?_
    refine lv_icmp_ne (tgt := 125) hx hb dX9_count_118 (by decide) (fun c => absurd (by decide) c) (fun _ => ?_)
    refine lv_iconst (v := 0) hx hb dX9_count_121 (by decide) ?_
    refine lv_goto (tgt := 126) hx hb dX9_count_122 (by decide) ?_
    refine lv_iadd hx hb dX9_count_126 ?_
    refine z_topi (y := 0) (by decide +kernel) ?_
    refine lv_istore_n (lv' := [(2, .int 0), (3, .int 2), (0, .ref (am 0)), (1, .int p1)]) hx hb dX9_count_127 rfl hl (by decide) rfl (fun ls hl => ?_)
    refine lv_iinc (v := 3) (lv' := [(3, .int 3), (2, .int 0), (0, .ref (am 0)), (1, .int p1)]) hx hb dX9_count_128 hl (k := 1) rfl (by decide) (by decide) rfl (fun ls hl => ?_)
    refine lv_goto (tgt := 105) hx hb dX9_count_131 (by decide) ?_
    refine lv_iload_n hx hb dX9_count_105 rfl (lv_at hl 0 rfl) ?_
    refine lv_iconst (v := 4) hx hb dX9_count_106 (by decide) ?_
    refine lv_icmp_ge (tgt := 134) hx hb dX9_count_107 (by decide) (fun c => absurd c (by decide)) (fun _ => ?_)
    refine lv_iload_n hx hb dX9_count_110 rfl (lv_at hl 1 rfl) ?_
    refine lv_aload_n hx hb dX9_count_111 rfl (lv_at hl 2 rfl) ?_
    refine va_get (D := (dC, dI)) (ci := 9) (v := .ref (am 1)) (C := RX9) (T := TX9) (N := 60) hx hb hts hi9 hown hK hP 0 rfl rfl 1 (by decide) hk8 (fun _ h9 => h9) rfl dX9_count_112 ?_
    refine lv_iload_n hx hb dX9_count_115 rfl (lv_at hl 0 rfl) ?_
    refine va_iald hx hb hK hP 1 1 rfl rfl (z_in (a := 3) (by decide) (by decide) (by decide)) dX9_count_116 ?_
    refine z_topi (y := (-1)) rfl ?_
    refine lv_iconst (v := (-1)) hx hb dX9_count_117 (by decide) ?_
    refine lv_icmp_ne (tgt := 125) hx hb dX9_count_118 (by decide) (fun c => absurd (by decide) c) (fun _ => ?_)
    refine lv_iconst (v := 0) hx hb dX9_count_121 (by decide) ?_
    refine lv_goto (tgt := 126) hx hb dX9_count_122 (by decide) ?_
    refine lv_iadd hx hb dX9_count_126 ?_
    refine z_topi (y := 0) (by decide +kernel) ?_
    refine lv_istore_n (lv' := [(2, .int 0), (3, .int 3), (0, .ref (am 0)), (1, .int p1)]) hx hb dX9_count_127 rfl hl (by decide) rfl (fun ls hl => ?_)
    refine lv_iinc (v := 4) (lv' := [(3, .int 4), (2, .int 0), (0, .ref (am 0)), (1, .int p1)]) hx hb dX9_count_128 hl (k := 1) rfl (by decide) (by decide) rfl (fun ls hl => ?_)
    refine lv_goto (tgt := 105) hx hb dX9_count_131 (by decide) ?_
    refine lv_iload_n hx hb dX9_count_105 rfl (lv_at hl 0 rfl) ?_
    refine lv_iconst (v := 4) hx hb dX9_count_106 (by decide) ?_
    refine lv_icmp_ge (tgt := 134) hx hb dX9_count_107 (by decide) (fun _ => ?_) (fun c => absurd (by decide) c)
    refine lv_iload_n hx hb dX9_count_134 rfl (lv_at hl 1 rfl) ?_
    have hP9 := hP.sub (ws' := []) [] rfl
    have hD9 := hD.sub (ws' := []) [] (by decide) rfl
    exact z_iret () hx hb hr hlocks hK hP9 hD9 hS hAe hQ rfl (Or.inr (Or.inr (Or.inr (Or.inr (Or.inr (Or.inr (Or.inr (Or.inl ⟨rfl, f1⟩)))))))) dX9_count_135
  · refine lv_tableOut (tgt := 136) hx hb dX9_count_8 f1 (by decide) ?_
    refine lv_iconst (v := (-1)) hx hb dX9_count_136 (by decide) ?_
    have hP9 := hP.sub (ws' := []) [] rfl
    have hD9 := hD.sub (ws' := []) [] (by decide) rfl
    exact z_iret () hx hb hr hlocks hK hP9 hD9 hS hAe hQ rfl (Or.inr (Or.inr (Or.inr (Or.inr (Or.inr (Or.inr (Or.inr (Or.inr ⟨rfl, f1⟩)))))))) dX9_count_137
set_option maxHeartbeats 4000000 in
set_option maxRecDepth 100000 in
theorem c_X9_copyLand_251 (l : Launch) (dC : Nat → ClassId) (dI : Nat → Nat → Nat) (cB cI cJ cZ cP cQ : ClassId) (am : Nat → Nat) (sz : Nat) : Met l yX9_copyLand wsX9_copyLand ({ frames := 0, cells := 0, slots := 0, locals := 0 } : Room) (zPc [.ref (am 0), .int 0, .int 1] (dC, dI) (zT cB cI cJ cZ cP cQ) [(am 0, .inr (9, mf0 am)), (am 6, .inl (cI, 5, .inl (fun _ => 0))), (am 7, .inl (cI, 5, .inl (fun _ => 0))), (am 8, .inl (cI, 30, .inl (fun _ => 0))), (am 9, .inl (cI, 30, .inl (fun _ => 0))), (am 10, .inl (cI, 5, .inl (fun _ => 0))), (am 11, .inl (cI, 40, .inl (fun _ => 0))), (am 12, .inl (cI, 40, .inl (fun _ => 0))), (am 13, .inl (cI, 40, .inl (fun _ => 0))), (am 14, .inl (cI, 40, .inl (fun _ => 0))), (am 16, .inl (cI, 60, .inl (fun _ => 0))), (am 17, .inl (cZ, 5, .inl (fun _ => 0))), (am 19, .inl (cI, 5, .inl (fun _ => 0))), (am 20, .inl (cI, 5, .inl (fun _ => 0))), (am 21, .inl (cI, 5, .inl (fun _ => 0)))] sz [] []) (va_Qv (fun _ => True) (zB (dC, dI) (zT cB cI cJ cZ cP cQ) (fun _ : Unit => [(am 0, .inr (9, mf0 am)), (am 6, .inl (cI, 5, .inl (fun _ => 0))), (am 7, .inl (cI, 5, .inl (fun _ => 0))), (am 8, .inl (cI, 30, .inl (fun _ => 0))), (am 9, .inl (cI, 30, .inl (fun _ => 0))), (am 10, .inl (cI, 5, .inl (fun _ => 0))), (am 11, .inl (cI, 40, .inl (fun _ => 0))), (am 12, .inl (cI, 40, .inl (fun _ => 0))), (am 13, .inl (cI, 40, .inl (fun _ => 0))), (am 14, .inl (cI, 40, .inl (fun _ => 0))), (am 16, .inl (cI, 60, .inl (fun _ => 0))), (am 17, .inl (cZ, 5, .inl (fun _ => 0))), (am 19, .inl (cI, 5, .inl (fun _ => 0))), (am 20, .inl (cI, 5, .inl (fun _ => 0))), (am 21, .inl (cI, 5, .inl (fun _ => 0)))]) [(am 0, .inr (9, mf0 am)), (am 6, .inl (cI, 5, .inl (fun _ => 0))), (am 7, .inl (cI, 5, .inl (fun _ => 0))), (am 8, .inl (cI, 30, .inl (fun _ => 0))), (am 9, .inl (cI, 30, .inl (fun _ => 0))), (am 10, .inl (cI, 5, .inl (fun _ => 0))), (am 11, .inl (cI, 40, .inl (fun _ => 0))), (am 12, .inl (cI, 40, .inl (fun _ => 0))), (am 13, .inl (cI, 40, .inl (fun _ => 0))), (am 14, .inl (cI, 40, .inl (fun _ => 0))), (am 16, .inl (cI, 60, .inl (fun _ => 0))), (am 17, .inl (cZ, 5, .inl (fun _ => 0))), (am 19, .inl (cI, 5, .inl (fun _ => 0))), (am 20, .inl (cI, 5, .inl (fun _ => 0))), (am 21, .inl (cI, 5, .inl (fun _ => 0)))] sz) (va_A [(am 0, .inr (9, mf0 am)), (am 6, .inl (cI, 5, .inl (fun _ => 0))), (am 7, .inl (cI, 5, .inl (fun _ => 0))), (am 8, .inl (cI, 30, .inl (fun _ => 0))), (am 9, .inl (cI, 30, .inl (fun _ => 0))), (am 10, .inl (cI, 5, .inl (fun _ => 0))), (am 11, .inl (cI, 40, .inl (fun _ => 0))), (am 12, .inl (cI, 40, .inl (fun _ => 0))), (am 13, .inl (cI, 40, .inl (fun _ => 0))), (am 14, .inl (cI, 40, .inl (fun _ => 0))), (am 16, .inl (cI, 60, .inl (fun _ => 0))), (am 17, .inl (cZ, 5, .inl (fun _ => 0))), (am 19, .inl (cI, 5, .inl (fun _ => 0))), (am 20, .inl (cI, 5, .inl (fun _ => 0))), (am 21, .inl (cI, 5, .inl (fun _ => 0)))] sz)) 0 0 (va_A [(am 0, .inr (9, mf0 am)), (am 6, .inl (cI, 5, .inl (fun _ => 0))), (am 7, .inl (cI, 5, .inl (fun _ => 0))), (am 8, .inl (cI, 30, .inl (fun _ => 0))), (am 9, .inl (cI, 30, .inl (fun _ => 0))), (am 10, .inl (cI, 5, .inl (fun _ => 0))), (am 11, .inl (cI, 40, .inl (fun _ => 0))), (am 12, .inl (cI, 40, .inl (fun _ => 0))), (am 13, .inl (cI, 40, .inl (fun _ => 0))), (am 14, .inl (cI, 40, .inl (fun _ => 0))), (am 16, .inl (cI, 60, .inl (fun _ => 0))), (am 17, .inl (cZ, 5, .inl (fun _ => 0))), (am 19, .inl (cI, 5, .inl (fun _ => 0))), (am 20, .inl (cI, 5, .inl (fun _ => 0))), (am 21, .inl (cI, 5, .inl (fun _ => 0)))] sz) := by
  refine z_enter (cc := cX9_copyLand) (maxL := 4) (ret := none) (by decide) rfl (Nat.le_of_ble_eq_true rfl) ?_
  intro p e s m below meth c A ls Q H locs hx hb hr hml hown hts hlocks hin hK hP hD hA hX hS hAe hQ hl
  have hown : s.vm.findClass RX9 = some m.cls := hown
  have hi9 : ∀ w ∈ wsX90, w ∈ wsX9_copyLand := fun w h => List.mem_cons_of_mem _ (List.mem_append_right _ h)
  have hk0 := hts (.fieldLink RX9 31 "MonthPushModel" "lines" "[I") (by decide +kernel)
  have hk1 := hts (.fieldLink RX9 34 "MonthPushModel" "laws" "[I") (by decide +kernel)
  have hk2 := hts (.fieldLink RX9 43 "MonthPushModel" "sorts" "[I") (by decide +kernel)
  have hk3 := hts (.fieldLink RX9 74 "MonthPushModel" "parts" "[I") (by decide +kernel)
  have hk4 := hts (.fieldLink RX9 77 "MonthPushModel" "coded" "[I") (by decide +kernel)
  have hk5 := hts (.fieldLink RX9 71 "MonthPushModel" "noise" "[I") (by decide +kernel)
  have hk6 := hts (.fieldLink RX9 65 "MonthPushModel" "hasWage" "[Z") (by decide +kernel)
  have hk7 := hts (.fieldLink RX9 62 "MonthPushModel" "leakBy" "[I") (by decide +kernel)
  have hk8 := hts (.fieldLink RX9 46 "MonthPushModel" "share" "[I") (by decide +kernel)
  have hk9 := hts (.fieldLink RX9 49 "MonthPushModel" "giftOf" "[I") (by decide +kernel)
  have hk10 := hts (.fieldLink RX9 52 "MonthPushModel" "wishOf" "[I") (by decide +kernel)
  have hk11 := hts (.fieldLink RX9 55 "MonthPushModel" "spread" "[I") (by decide +kernel)
  have hk12 := hts (.fieldLink RX9 37 "MonthPushModel" "enter" "[I") (by decide +kernel)
  have hk13 := hts (.fieldLink RX9 40 "MonthPushModel" "leave" "[I") (by decide +kernel)
  have hl : lv_has ls 4 [(0, .ref (am 0)), (1, .int 0), (2, .int 1)] := hl
  refine lv_aload_n hx hb dX9_copyLand_0 rfl (lv_at hl 0 rfl) ?_
  refine va_get (D := (dC, dI)) (ci := 9) (v := .ref (am 6)) (C := RX9) (T := TX9) (N := 60) hx hb hts hi9 hown hK hP 0 rfl rfl 16 (by decide) hk0 (fun _ h9 => h9) rfl dX9_copyLand_1 ?_
  refine lv_iload_n hx hb dX9_copyLand_4 rfl (lv_at hl 2 rfl) ?_
  refine lv_aload_n hx hb dX9_copyLand_5 rfl (lv_at hl 0 rfl) ?_
  refine va_get (D := (dC, dI)) (ci := 9) (v := .ref (am 6)) (C := RX9) (T := TX9) (N := 60) hx hb hts hi9 hown hK hP 0 rfl rfl 16 (by decide) hk0 (fun _ h9 => h9) rfl dX9_copyLand_6 ?_
  refine lv_iload_n hx hb dX9_copyLand_9 rfl (lv_at hl 1 rfl) ?_
  refine va_iald hx hb hK hP 1 1 rfl rfl (z_in (a := 0) (by decide) (by decide) (by decide)) dX9_copyLand_10 ?_
  refine z_topi (y := 0) rfl ?_
  refine z_iast0 hx hb hK hP hD hS 1 1 rfl rfl (z_in (a := 1) (by decide) (by decide) (by decide)) rfl dX9_copyLand_11 (fun H locs hP hS => ?_)
  refine lv_aload_n hx hb dX9_copyLand_12 rfl (lv_at hl 0 rfl) ?_
  refine va_get (D := (dC, dI)) (ci := 9) (v := .ref (am 7)) (C := RX9) (T := TX9) (N := 60) hx hb hts hi9 hown hK hP 0 rfl rfl 17 (by decide) hk1 (fun _ h9 => h9) rfl dX9_copyLand_13 ?_
  refine lv_iload_n hx hb dX9_copyLand_16 rfl (lv_at hl 2 rfl) ?_
  refine lv_aload_n hx hb dX9_copyLand_17 rfl (lv_at hl 0 rfl) ?_
  refine va_get (D := (dC, dI)) (ci := 9) (v := .ref (am 7)) (C := RX9) (T := TX9) (N := 60) hx hb hts hi9 hown hK hP 0 rfl rfl 17 (by decide) hk1 (fun _ h9 => h9) rfl dX9_copyLand_18 ?_
  refine lv_iload_n hx hb dX9_copyLand_21 rfl (lv_at hl 1 rfl) ?_
  refine va_iald hx hb hK hP 2 1 rfl rfl (z_in (a := 0) (by decide) (by decide) (by decide)) dX9_copyLand_22 ?_
  refine z_topi (y := 0) rfl ?_
  refine z_iast0 hx hb hK hP hD hS 2 1 rfl rfl (z_in (a := 1) (by decide) (by decide) (by decide)) rfl dX9_copyLand_23 (fun H locs hP hS => ?_)
  refine lv_aload_n hx hb dX9_copyLand_24 rfl (lv_at hl 0 rfl) ?_
  refine va_get (D := (dC, dI)) (ci := 9) (v := .ref (am 10)) (C := RX9) (T := TX9) (N := 60) hx hb hts hi9 hown hK hP 0 rfl rfl 20 (by decide) hk2 (fun _ h9 => h9) rfl dX9_copyLand_25 ?_
  refine lv_iload_n hx hb dX9_copyLand_28 rfl (lv_at hl 2 rfl) ?_
  refine lv_aload_n hx hb dX9_copyLand_29 rfl (lv_at hl 0 rfl) ?_
  refine va_get (D := (dC, dI)) (ci := 9) (v := .ref (am 10)) (C := RX9) (T := TX9) (N := 60) hx hb hts hi9 hown hK hP 0 rfl rfl 20 (by decide) hk2 (fun _ h9 => h9) rfl dX9_copyLand_30 ?_
  refine lv_iload_n hx hb dX9_copyLand_33 rfl (lv_at hl 1 rfl) ?_
  refine va_iald hx hb hK hP 5 1 rfl rfl (z_in (a := 0) (by decide) (by decide) (by decide)) dX9_copyLand_34 ?_
  refine z_topi (y := 0) rfl ?_
  refine z_iast0 hx hb hK hP hD hS 5 1 rfl rfl (z_in (a := 1) (by decide) (by decide) (by decide)) rfl dX9_copyLand_35 (fun H locs hP hS => ?_)
  refine lv_aload_n hx hb dX9_copyLand_36 rfl (lv_at hl 0 rfl) ?_
  refine va_get (D := (dC, dI)) (ci := 9) (v := .ref (am 20)) (C := RX9) (T := TX9) (N := 60) hx hb hts hi9 hown hK hP 0 rfl rfl 30 (by decide) hk3 (fun _ h9 => h9) rfl dX9_copyLand_37 ?_
  refine lv_iload_n hx hb dX9_copyLand_40 rfl (lv_at hl 2 rfl) ?_
  refine lv_aload_n hx hb dX9_copyLand_41 rfl (lv_at hl 0 rfl) ?_
  refine va_get (D := (dC, dI)) (ci := 9) (v := .ref (am 20)) (C := RX9) (T := TX9) (N := 60) hx hb hts hi9 hown hK hP 0 rfl rfl 30 (by decide) hk3 (fun _ h9 => h9) rfl dX9_copyLand_42 ?_
  refine lv_iload_n hx hb dX9_copyLand_45 rfl (lv_at hl 1 rfl) ?_
  refine va_iald hx hb hK hP 13 1 rfl rfl (z_in (a := 0) (by decide) (by decide) (by decide)) dX9_copyLand_46 ?_
  refine z_topi (y := 0) rfl ?_
  refine z_iast0 hx hb hK hP hD hS 13 1 rfl rfl (z_in (a := 1) (by decide) (by decide) (by decide)) rfl dX9_copyLand_47 (fun H locs hP hS => ?_)
  refine lv_aload_n hx hb dX9_copyLand_48 rfl (lv_at hl 0 rfl) ?_
  refine va_get (D := (dC, dI)) (ci := 9) (v := .ref (am 21)) (C := RX9) (T := TX9) (N := 60) hx hb hts hi9 hown hK hP 0 rfl rfl 31 (by decide) hk4 (fun _ h9 => h9) rfl dX9_copyLand_49 ?_
  refine lv_iload_n hx hb dX9_copyLand_52 rfl (lv_at hl 2 rfl) ?_
  refine lv_aload_n hx hb dX9_copyLand_53 rfl (lv_at hl 0 rfl) ?_
  refine va_get (D := (dC, dI)) (ci := 9) (v := .ref (am 21)) (C := RX9) (T := TX9) (N := 60) hx hb hts hi9 hown hK hP 0 rfl rfl 31 (by decide) hk4 (fun _ h9 => h9) rfl dX9_copyLand_54 ?_
  refine lv_iload_n hx hb dX9_copyLand_57 rfl (lv_at hl 1 rfl) ?_
  refine va_iald hx hb hK hP 14 1 rfl rfl (z_in (a := 0) (by decide) (by decide) (by decide)) dX9_copyLand_58 ?_
  refine z_topi (y := 0) rfl ?_
  refine z_iast0 hx hb hK hP hD hS 14 1 rfl rfl (z_in (a := 1) (by decide) (by decide) (by decide)) rfl dX9_copyLand_59 (fun H locs hP hS => ?_)
  refine lv_aload_n hx hb dX9_copyLand_60 rfl (lv_at hl 0 rfl) ?_
  refine va_get (D := (dC, dI)) (ci := 9) (v := .ref (am 19)) (C := RX9) (T := TX9) (N := 60) hx hb hts hi9 hown hK hP 0 rfl rfl 29 (by decide) hk5 (fun _ h9 => h9) rfl dX9_copyLand_61 ?_
  refine lv_iload_n hx hb dX9_copyLand_64 rfl (lv_at hl 2 rfl) ?_
  refine lv_aload_n hx hb dX9_copyLand_65 rfl (lv_at hl 0 rfl) ?_
  refine va_get (D := (dC, dI)) (ci := 9) (v := .ref (am 19)) (C := RX9) (T := TX9) (N := 60) hx hb hts hi9 hown hK hP 0 rfl rfl 29 (by decide) hk5 (fun _ h9 => h9) rfl dX9_copyLand_66 ?_
  refine lv_iload_n hx hb dX9_copyLand_69 rfl (lv_at hl 1 rfl) ?_
  refine va_iald hx hb hK hP 12 1 rfl rfl (z_in (a := 0) (by decide) (by decide) (by decide)) dX9_copyLand_70 ?_
  refine z_topi (y := 0) rfl ?_
  refine z_iast0 hx hb hK hP hD hS 12 1 rfl rfl (z_in (a := 1) (by decide) (by decide) (by decide)) rfl dX9_copyLand_71 (fun H locs hP hS => ?_)
  refine lv_aload_n hx hb dX9_copyLand_72 rfl (lv_at hl 0 rfl) ?_
  refine va_get (D := (dC, dI)) (ci := 9) (v := .ref (am 17)) (C := RX9) (T := TX9) (N := 60) hx hb hts hi9 hown hK hP 0 rfl rfl 27 (by decide) hk6 (fun _ h9 => h9) rfl dX9_copyLand_73 ?_
  refine lv_iload_n hx hb dX9_copyLand_76 rfl (lv_at hl 2 rfl) ?_
  refine lv_aload_n hx hb dX9_copyLand_77 rfl (lv_at hl 0 rfl) ?_
  refine va_get (D := (dC, dI)) (ci := 9) (v := .ref (am 17)) (C := RX9) (T := TX9) (N := 60) hx hb hts hi9 hown hK hP 0 rfl rfl 27 (by decide) hk6 (fun _ h9 => h9) rfl dX9_copyLand_78 ?_
  refine lv_iload_n hx hb dX9_copyLand_81 rfl (lv_at hl 1 rfl) ?_
  refine va_zald hx hb hK hP 11 3 rfl rfl (z_in (a := 0) (by decide) (by decide) (by decide)) dX9_copyLand_82 ?_
  refine z_topi (y := 0) rfl ?_
  refine z_zast0 hx hb hK hP hD hS 11 3 rfl rfl (z_in (a := 1) (by decide) (by decide) (by decide)) (by decide) dX9_copyLand_83 (fun H locs hP hS => ?_)
  refine lv_iconst (v := 0) hx hb dX9_copyLand_84 (by decide) ?_
  refine lv_istore_n (lv' := [(3, .int 0), (0, .ref (am 0)), (1, .int 0), (2, .int 1)]) hx hb dX9_copyLand_85 rfl hl (by decide) rfl (fun ls hl => ?_)
  have hlp1 : ∀ (n i : Nat), i + n = 6 → 0 ≤ i → ∀ (H : Heap) (locs : List Loc), va_P (dC, dI) vwCl [(am 0, .inr (9, mf0 am)), (am 6, .inl (cI, 5, .inl (fun _ => 0))), (am 7, .inl (cI, 5, .inl (fun _ => 0))), (am 8, .inl (cI, 30, .inl (fun _ => 0))), (am 9, .inl (cI, 30, .inl (fun _ => 0))), (am 10, .inl (cI, 5, .inl (fun _ => 0))), (am 11, .inl (cI, 40, .inl (fun _ => 0))), (am 12, .inl (cI, 40, .inl (fun _ => 0))), (am 13, .inl (cI, 40, .inl (fun _ => 0))), (am 14, .inl (cI, 40, .inl (fun _ => 0))), (am 16, .inl (cI, 60, .inl (fun _ => 0))), (am 17, .inl (cZ, 5, .inl (fun _ => 0))), (am 19, .inl (cI, 5, .inl (fun _ => 0))), (am 20, .inl (cI, 5, .inl (fun _ => 0))), (am 21, .inl (cI, 5, .inl (fun _ => 0)))] H → va_S A s.heap H locs → ∀ (ls : Array Slot), lv_has ls 4 [(3, .int (nI i)), (0, .ref (am 0)), (1, .int 0), (2, .int 1)] → W p l e ({ frames := 0, cells := 0, slots := 0, locals := 0 } : Room) s m ([.ref (am 0), .int 0, .int 1] : List Value).toArray below meth c H locs 0 0 Q (F0 m 86 ls []) := by
    intro n
    induction n with
    | zero =>
      intro i hi hi0 H locs hP hS ls hl
      obtain rfl : i = 6 := by omega
      have hl : lv_has ls 4 [(3, .int 6), (0, .ref (am 0)), (1, .int 0), (2, .int 1)] := hl
      refine lv_iload_n hx hb dX9_copyLand_86 rfl (lv_at hl 0 rfl) ?_
      refine lv_bipush (v := 6) hx hb dX9_copyLand_87 (by decide) ?_
      refine lv_icmp_ge (tgt := 142) hx hb dX9_copyLand_89 (by decide) (fun _ => ?_) (fun c => absurd (by decide) c)
      refine lv_iconst (v := 0) hx hb dX9_copyLand_142 (by decide) ?_
      refine lv_istore_n (lv' := [(3, .int 0), (0, .ref (am 0)), (1, .int 0), (2, .int 1)]) hx hb dX9_copyLand_143 rfl hl (by decide) rfl (fun ls hl => ?_)
      have hlp2 : ∀ (n i : Nat), i + n = 8 → 0 ≤ i → ∀ (H : Heap) (locs : List Loc), va_P (dC, dI) vwCl [(am 0, .inr (9, mf0 am)), (am 6, .inl (cI, 5, .inl (fun _ => 0))), (am 7, .inl (cI, 5, .inl (fun _ => 0))), (am 8, .inl (cI, 30, .inl (fun _ => 0))), (am 9, .inl (cI, 30, .inl (fun _ => 0))), (am 10, .inl (cI, 5, .inl (fun _ => 0))), (am 11, .inl (cI, 40, .inl (fun _ => 0))), (am 12, .inl (cI, 40, .inl (fun _ => 0))), (am 13, .inl (cI, 40, .inl (fun _ => 0))), (am 14, .inl (cI, 40, .inl (fun _ => 0))), (am 16, .inl (cI, 60, .inl (fun _ => 0))), (am 17, .inl (cZ, 5, .inl (fun _ => 0))), (am 19, .inl (cI, 5, .inl (fun _ => 0))), (am 20, .inl (cI, 5, .inl (fun _ => 0))), (am 21, .inl (cI, 5, .inl (fun _ => 0)))] H → va_S A s.heap H locs → ∀ (ls : Array Slot), lv_has ls 4 [(3, .int (nI i)), (0, .ref (am 0)), (1, .int 0), (2, .int 1)] → W p l e ({ frames := 0, cells := 0, slots := 0, locals := 0 } : Room) s m ([.ref (am 0), .int 0, .int 1] : List Value).toArray below meth c H locs 0 0 Q (F0 m 144 ls []) := by
        intro n
        induction n with
        | zero =>
          intro i hi hi0 H locs hP hS ls hl
          obtain rfl : i = 8 := by omega
          have hl : lv_has ls 4 [(3, .int 8), (0, .ref (am 0)), (1, .int 0), (2, .int 1)] := hl
          refine lv_iload_n hx hb dX9_copyLand_144 rfl (lv_at hl 0 rfl) ?_
          refine lv_bipush (v := 8) hx hb dX9_copyLand_145 (by decide) ?_
          refine lv_icmp_ge (tgt := 244) hx hb dX9_copyLand_147 (by decide) (fun _ => ?_) (fun c => absurd (by decide) c)
          refine lv_iconst (v := 0) hx hb dX9_copyLand_244 (by decide) ?_
          refine lv_istore_n (lv' := [(3, .int 0), (0, .ref (am 0)), (1, .int 0), (2, .int 1)]) hx hb dX9_copyLand_245 rfl hl (by decide) rfl (fun ls hl => ?_)
          have hlp3 : ∀ (n i : Nat), i + n = 12 → 0 ≤ i → ∀ (H : Heap) (locs : List Loc), va_P (dC, dI) vwCl [(am 0, .inr (9, mf0 am)), (am 6, .inl (cI, 5, .inl (fun _ => 0))), (am 7, .inl (cI, 5, .inl (fun _ => 0))), (am 8, .inl (cI, 30, .inl (fun _ => 0))), (am 9, .inl (cI, 30, .inl (fun _ => 0))), (am 10, .inl (cI, 5, .inl (fun _ => 0))), (am 11, .inl (cI, 40, .inl (fun _ => 0))), (am 12, .inl (cI, 40, .inl (fun _ => 0))), (am 13, .inl (cI, 40, .inl (fun _ => 0))), (am 14, .inl (cI, 40, .inl (fun _ => 0))), (am 16, .inl (cI, 60, .inl (fun _ => 0))), (am 17, .inl (cZ, 5, .inl (fun _ => 0))), (am 19, .inl (cI, 5, .inl (fun _ => 0))), (am 20, .inl (cI, 5, .inl (fun _ => 0))), (am 21, .inl (cI, 5, .inl (fun _ => 0)))] H → va_S A s.heap H locs → ∀ (ls : Array Slot), lv_has ls 4 [(3, .int (nI i)), (0, .ref (am 0)), (1, .int 0), (2, .int 1)] → W p l e ({ frames := 0, cells := 0, slots := 0, locals := 0 } : Room) s m ([.ref (am 0), .int 0, .int 1] : List Value).toArray below meth c H locs 0 0 Q (F0 m 246 ls []) := by
            intro n
            induction n with
            | zero =>
              intro i hi hi0 H locs hP hS ls hl
              obtain rfl : i = 12 := by omega
              have hl : lv_has ls 4 [(3, .int 12), (0, .ref (am 0)), (1, .int 0), (2, .int 1)] := hl
              refine lv_iload_n hx hb dX9_copyLand_246 rfl (lv_at hl 0 rfl) ?_
              refine lv_bipush (v := 12) hx hb dX9_copyLand_247 (by decide) ?_
              refine lv_icmp_ge (tgt := 280) hx hb dX9_copyLand_249 (by decide) (fun _ => ?_) (fun c => absurd (by decide) c)
              refine lv_iconst (v := 0) hx hb dX9_copyLand_280 (by decide) ?_
              refine lv_istore_n (lv' := [(3, .int 0), (0, .ref (am 0)), (1, .int 0), (2, .int 1)]) hx hb dX9_copyLand_281 rfl hl (by decide) rfl (fun ls hl => ?_)
              refine lv_iload_n hx hb dX9_copyLand_282 rfl (lv_at hl 0 rfl) ?_
              refine lv_aload_n hx hb dX9_copyLand_283 rfl (lv_at hl 1 rfl) ?_
              refine va_get (D := (dC, dI)) (ci := 9) (v := .ref (am 21)) (C := RX9) (T := TX9) (N := 60) hx hb hts hi9 hown hK hP 0 rfl rfl 31 (by decide) hk4 (fun _ h9 => h9) rfl dX9_copyLand_284 ?_
              refine lv_iload_n hx hb dX9_copyLand_287 rfl (lv_at hl 2 rfl) ?_
              refine va_iald hx hb hK hP 14 1 rfl rfl (z_in (a := 0) (by decide) (by decide) (by decide)) dX9_copyLand_288 ?_
              refine z_topi (y := 0) rfl ?_
              refine lv_icmp_ge (tgt := 322) hx hb dX9_copyLand_289 (by decide) (fun _ => ?_) (fun c => absurd (by decide) c)
              exact z_vret () hx hb hr hlocks hK hP hD hS hAe hQ rfl trivial dX9_copyLand_322
            | succ n ih =>
              intro i hi hi0 H locs hP hS ls hl
              have hlt : i < 12 := by omega
              refine lv_iload_n hx hb dX9_copyLand_246 rfl (lv_at hl 0 rfl) ?_
              refine lv_bipush (v := 12) hx hb dX9_copyLand_247 (by decide) ?_
              refine lv_icmp_ge (tgt := 280) hx hb dX9_copyLand_249 (by decide) (fun c => absurd (show 12 ≤ (i : Int) from z_le (by decide) (nI_toInt (by omega)) c) (by omega)) (fun _ => ?_)
              refine lv_aload_n hx hb dX9_copyLand_252 rfl (lv_at hl 1 rfl) ?_
              refine va_get (D := (dC, dI)) (ci := 9) (v := .ref (am 16)) (C := RX9) (T := TX9) (N := 60) hx hb hts hi9 hown hK hP 0 rfl rfl 26 (by decide) hk7 (fun _ h9 => h9) rfl dX9_copyLand_253 ?_
              refine lv_bipush (v := 12) hx hb dX9_copyLand_256 (by decide) ?_
              refine lv_iload_n hx hb dX9_copyLand_258 rfl (lv_at hl 3 rfl) ?_
              refine lv_imul hx hb dX9_copyLand_259 ?_
              refine z_topi (y := 12) (by decide +kernel) ?_
              refine lv_iload_n hx hb dX9_copyLand_260 rfl (lv_at hl 0 rfl) ?_
              refine lv_iadd hx hb dX9_copyLand_261 ?_
              refine z_topi (y := nI (12 + i)) (nI_add 12 i) ?_
              refine lv_aload_n hx hb dX9_copyLand_262 rfl (lv_at hl 1 rfl) ?_
              refine va_get (D := (dC, dI)) (ci := 9) (v := .ref (am 16)) (C := RX9) (T := TX9) (N := 60) hx hb hts hi9 hown hK hP 0 rfl rfl 26 (by decide) hk7 (fun _ h9 => h9) rfl dX9_copyLand_263 ?_
              refine lv_bipush (v := 12) hx hb dX9_copyLand_266 (by decide) ?_
              refine lv_iload_n hx hb dX9_copyLand_268 rfl (lv_at hl 2 rfl) ?_
              refine lv_imul hx hb dX9_copyLand_269 ?_
              refine z_topi (y := 0) (by decide +kernel) ?_
              refine lv_iload_n hx hb dX9_copyLand_270 rfl (lv_at hl 0 rfl) ?_
              refine lv_iadd hx hb dX9_copyLand_271 ?_
              refine z_topi (y := nI (0 + i)) (nI_add 0 i) ?_
              refine va_iald hx hb hK hP 10 1 rfl rfl (z_in (nI_toInt (by omega)) (by omega) (by omega)) dX9_copyLand_272 ?_
              refine z_topi (y := 0) rfl ?_
              refine z_iast0 hx hb hK hP hD hS 10 1 rfl rfl (z_in (nI_toInt (by omega)) (by omega) (by omega)) rfl dX9_copyLand_273 (fun H locs hP hS => ?_)
              refine lv_iinc (v := nI (i + 1)) (lv' := [(3, .int (nI (i + 1))), (0, .ref (am 0)), (1, .int 0), (2, .int 1)]) hx hb dX9_copyLand_274 hl (k := 0) rfl (nI_1 i) (by decide) rfl (fun ls hl => ?_)
              refine lv_goto (tgt := 246) hx hb dX9_copyLand_277 (by decide) ?_
              exact ih (i + 1) (by omega) (by omega) _ _ hP hS ls (lv_sub hl [0, 1, 2, 3] rfl)
          exact hlp3 12 0 rfl (by omega) _ _ hP hS ls (lv_sub hl [0, 1, 2, 3] rfl)
        | succ n ih =>
          intro i hi hi0 H locs hP hS ls hl
          have hlt : i < 8 := by omega
          refine lv_iload_n hx hb dX9_copyLand_144 rfl (lv_at hl 0 rfl) ?_
          refine lv_bipush (v := 8) hx hb dX9_copyLand_145 (by decide) ?_
          refine lv_icmp_ge (tgt := 244) hx hb dX9_copyLand_147 (by decide) (fun c => absurd (show 8 ≤ (i : Int) from z_le (by decide) (nI_toInt (by omega)) c) (by omega)) (fun _ => ?_)
          refine lv_aload_n hx hb dX9_copyLand_150 rfl (lv_at hl 1 rfl) ?_
          refine va_get (D := (dC, dI)) (ci := 9) (v := .ref (am 11)) (C := RX9) (T := TX9) (N := 60) hx hb hts hi9 hown hK hP 0 rfl rfl 21 (by decide) hk8 (fun _ h9 => h9) rfl dX9_copyLand_151 ?_
          refine lv_bipush (v := 8) hx hb dX9_copyLand_154 (by decide) ?_
          refine lv_iload_n hx hb dX9_copyLand_156 rfl (lv_at hl 3 rfl) ?_
          refine lv_imul hx hb dX9_copyLand_157 ?_
          refine z_topi (y := 8) (by decide +kernel) ?_
          refine lv_iload_n hx hb dX9_copyLand_158 rfl (lv_at hl 0 rfl) ?_
          refine lv_iadd hx hb dX9_copyLand_159 ?_
          refine z_topi (y := nI (8 + i)) (nI_add 8 i) ?_
          refine lv_aload_n hx hb dX9_copyLand_160 rfl (lv_at hl 1 rfl) ?_
          refine va_get (D := (dC, dI)) (ci := 9) (v := .ref (am 11)) (C := RX9) (T := TX9) (N := 60) hx hb hts hi9 hown hK hP 0 rfl rfl 21 (by decide) hk8 (fun _ h9 => h9) rfl dX9_copyLand_161 ?_
          refine lv_bipush (v := 8) hx hb dX9_copyLand_164 (by decide) ?_
          refine lv_iload_n hx hb dX9_copyLand_166 rfl (lv_at hl 2 rfl) ?_
          refine lv_imul hx hb dX9_copyLand_167 ?_
          refine z_topi (y := 0) (by decide +kernel) ?_
          refine lv_iload_n hx hb dX9_copyLand_168 rfl (lv_at hl 0 rfl) ?_
          refine lv_iadd hx hb dX9_copyLand_169 ?_
          refine z_topi (y := nI (0 + i)) (nI_add 0 i) ?_
          refine va_iald hx hb hK hP 6 1 rfl rfl (z_in (nI_toInt (by omega)) (by omega) (by omega)) dX9_copyLand_170 ?_
          refine z_topi (y := 0) rfl ?_
          refine z_iast0 hx hb hK hP hD hS 6 1 rfl rfl (z_in (nI_toInt (by omega)) (by omega) (by omega)) rfl dX9_copyLand_171 (fun H locs hP hS => ?_)
          refine lv_aload_n hx hb dX9_copyLand_172 rfl (lv_at hl 1 rfl) ?_
          refine va_get (D := (dC, dI)) (ci := 9) (v := .ref (am 12)) (C := RX9) (T := TX9) (N := 60) hx hb hts hi9 hown hK hP 0 rfl rfl 22 (by decide) hk9 (fun _ h9 => h9) rfl dX9_copyLand_173 ?_
          refine lv_bipush (v := 8) hx hb dX9_copyLand_176 (by decide) ?_
          refine lv_iload_n hx hb dX9_copyLand_178 rfl (lv_at hl 3 rfl) ?_
          refine lv_imul hx hb dX9_copyLand_179 ?_
          refine z_topi (y := 8) (by decide +kernel) ?_
          refine lv_iload_n hx hb dX9_copyLand_180 rfl (lv_at hl 0 rfl) ?_
          refine lv_iadd hx hb dX9_copyLand_181 ?_
          refine z_topi (y := nI (8 + i)) (nI_add 8 i) ?_
          refine lv_aload_n hx hb dX9_copyLand_182 rfl (lv_at hl 1 rfl) ?_
          refine va_get (D := (dC, dI)) (ci := 9) (v := .ref (am 12)) (C := RX9) (T := TX9) (N := 60) hx hb hts hi9 hown hK hP 0 rfl rfl 22 (by decide) hk9 (fun _ h9 => h9) rfl dX9_copyLand_183 ?_
          refine lv_bipush (v := 8) hx hb dX9_copyLand_186 (by decide) ?_
          refine lv_iload_n hx hb dX9_copyLand_188 rfl (lv_at hl 2 rfl) ?_
          refine lv_imul hx hb dX9_copyLand_189 ?_
          refine z_topi (y := 0) (by decide +kernel) ?_
          refine lv_iload_n hx hb dX9_copyLand_190 rfl (lv_at hl 0 rfl) ?_
          refine lv_iadd hx hb dX9_copyLand_191 ?_
          refine z_topi (y := nI (0 + i)) (nI_add 0 i) ?_
          refine va_iald hx hb hK hP 7 1 rfl rfl (z_in (nI_toInt (by omega)) (by omega) (by omega)) dX9_copyLand_192 ?_
          refine z_topi (y := 0) rfl ?_
          refine z_iast0 hx hb hK hP hD hS 7 1 rfl rfl (z_in (nI_toInt (by omega)) (by omega) (by omega)) rfl dX9_copyLand_193 (fun H locs hP hS => ?_)
          refine lv_aload_n hx hb dX9_copyLand_194 rfl (lv_at hl 1 rfl) ?_
          refine va_get (D := (dC, dI)) (ci := 9) (v := .ref (am 13)) (C := RX9) (T := TX9) (N := 60) hx hb hts hi9 hown hK hP 0 rfl rfl 23 (by decide) hk10 (fun _ h9 => h9) rfl dX9_copyLand_195 ?_
          refine lv_bipush (v := 8) hx hb dX9_copyLand_198 (by decide) ?_
          refine lv_iload_n hx hb dX9_copyLand_200 rfl (lv_at hl 3 rfl) ?_
          refine lv_imul hx hb dX9_copyLand_201 ?_
          refine z_topi (y := 8) (by decide +kernel) ?_
          refine lv_iload_n hx hb dX9_copyLand_202 rfl (lv_at hl 0 rfl) ?_
          refine lv_iadd hx hb dX9_copyLand_203 ?_
          refine z_topi (y := nI (8 + i)) (nI_add 8 i) ?_
          refine lv_aload_n hx hb dX9_copyLand_204 rfl (lv_at hl 1 rfl) ?_
          refine va_get (D := (dC, dI)) (ci := 9) (v := .ref (am 13)) (C := RX9) (T := TX9) (N := 60) hx hb hts hi9 hown hK hP 0 rfl rfl 23 (by decide) hk10 (fun _ h9 => h9) rfl dX9_copyLand_205 ?_
          refine lv_bipush (v := 8) hx hb dX9_copyLand_208 (by decide) ?_
          refine lv_iload_n hx hb dX9_copyLand_210 rfl (lv_at hl 2 rfl) ?_
          refine lv_imul hx hb dX9_copyLand_211 ?_
          refine z_topi (y := 0) (by decide +kernel) ?_
          refine lv_iload_n hx hb dX9_copyLand_212 rfl (lv_at hl 0 rfl) ?_
          refine lv_iadd hx hb dX9_copyLand_213 ?_
          refine z_topi (y := nI (0 + i)) (nI_add 0 i) ?_
          refine va_iald hx hb hK hP 8 1 rfl rfl (z_in (nI_toInt (by omega)) (by omega) (by omega)) dX9_copyLand_214 ?_
          refine z_topi (y := 0) rfl ?_
          refine z_iast0 hx hb hK hP hD hS 8 1 rfl rfl (z_in (nI_toInt (by omega)) (by omega) (by omega)) rfl dX9_copyLand_215 (fun H locs hP hS => ?_)
          refine lv_aload_n hx hb dX9_copyLand_216 rfl (lv_at hl 1 rfl) ?_
          refine va_get (D := (dC, dI)) (ci := 9) (v := .ref (am 14)) (C := RX9) (T := TX9) (N := 60) hx hb hts hi9 hown hK hP 0 rfl rfl 24 (by decide) hk11 (fun _ h9 => h9) rfl dX9_copyLand_217 ?_
          refine lv_bipush (v := 8) hx hb dX9_copyLand_220 (by decide) ?_
          refine lv_iload_n hx hb dX9_copyLand_222 rfl (lv_at hl 3 rfl) ?_
          refine lv_imul hx hb dX9_copyLand_223 ?_
          refine z_topi (y := 8) (by decide +kernel) ?_
          refine lv_iload_n hx hb dX9_copyLand_224 rfl (lv_at hl 0 rfl) ?_
          refine lv_iadd hx hb dX9_copyLand_225 ?_
          refine z_topi (y := nI (8 + i)) (nI_add 8 i) ?_
          refine lv_aload_n hx hb dX9_copyLand_226 rfl (lv_at hl 1 rfl) ?_
          refine va_get (D := (dC, dI)) (ci := 9) (v := .ref (am 14)) (C := RX9) (T := TX9) (N := 60) hx hb hts hi9 hown hK hP 0 rfl rfl 24 (by decide) hk11 (fun _ h9 => h9) rfl dX9_copyLand_227 ?_
          refine lv_bipush (v := 8) hx hb dX9_copyLand_230 (by decide) ?_
          refine lv_iload_n hx hb dX9_copyLand_232 rfl (lv_at hl 2 rfl) ?_
          refine lv_imul hx hb dX9_copyLand_233 ?_
          refine z_topi (y := 0) (by decide +kernel) ?_
          refine lv_iload_n hx hb dX9_copyLand_234 rfl (lv_at hl 0 rfl) ?_
          refine lv_iadd hx hb dX9_copyLand_235 ?_
          refine z_topi (y := nI (0 + i)) (nI_add 0 i) ?_
          refine va_iald hx hb hK hP 9 1 rfl rfl (z_in (nI_toInt (by omega)) (by omega) (by omega)) dX9_copyLand_236 ?_
          refine z_topi (y := 0) rfl ?_
          refine z_iast0 hx hb hK hP hD hS 9 1 rfl rfl (z_in (nI_toInt (by omega)) (by omega) (by omega)) rfl dX9_copyLand_237 (fun H locs hP hS => ?_)
          refine lv_iinc (v := nI (i + 1)) (lv' := [(3, .int (nI (i + 1))), (0, .ref (am 0)), (1, .int 0), (2, .int 1)]) hx hb dX9_copyLand_238 hl (k := 0) rfl (nI_1 i) (by decide) rfl (fun ls hl => ?_)
          refine lv_goto (tgt := 144) hx hb dX9_copyLand_241 (by decide) ?_
          exact ih (i + 1) (by omega) (by omega) _ _ hP hS ls (lv_sub hl [0, 1, 2, 3] rfl)
      exact hlp2 8 0 rfl (by omega) _ _ hP hS ls (lv_sub hl [0, 1, 2, 3] rfl)
    | succ n ih =>
      intro i hi hi0 H locs hP hS ls hl
      have hlt : i < 6 := by omega
      refine lv_iload_n hx hb dX9_copyLand_86 rfl (lv_at hl 0 rfl) ?_
      refine lv_bipush (v := 6) hx hb dX9_copyLand_87 (by decide) ?_
      refine lv_icmp_ge (tgt := 142) hx hb dX9_copyLand_89 (by decide) (fun c => absurd (show 6 ≤ (i : Int) from z_le (by decide) (nI_toInt (by omega)) c) (by omega)) (fun _ => ?_)
      refine lv_aload_n hx hb dX9_copyLand_92 rfl (lv_at hl 1 rfl) ?_
      refine va_get (D := (dC, dI)) (ci := 9) (v := .ref (am 8)) (C := RX9) (T := TX9) (N := 60) hx hb hts hi9 hown hK hP 0 rfl rfl 18 (by decide) hk12 (fun _ h9 => h9) rfl dX9_copyLand_93 ?_
      refine lv_bipush (v := 6) hx hb dX9_copyLand_96 (by decide) ?_
      refine lv_iload_n hx hb dX9_copyLand_98 rfl (lv_at hl 3 rfl) ?_
      refine lv_imul hx hb dX9_copyLand_99 ?_
      refine z_topi (y := 6) (by decide +kernel) ?_
      refine lv_iload_n hx hb dX9_copyLand_100 rfl (lv_at hl 0 rfl) ?_
      refine lv_iadd hx hb dX9_copyLand_101 ?_
      refine z_topi (y := nI (6 + i)) (nI_add 6 i) ?_
      refine lv_aload_n hx hb dX9_copyLand_102 rfl (lv_at hl 1 rfl) ?_
      refine va_get (D := (dC, dI)) (ci := 9) (v := .ref (am 8)) (C := RX9) (T := TX9) (N := 60) hx hb hts hi9 hown hK hP 0 rfl rfl 18 (by decide) hk12 (fun _ h9 => h9) rfl dX9_copyLand_103 ?_
      refine lv_bipush (v := 6) hx hb dX9_copyLand_106 (by decide) ?_
      refine lv_iload_n hx hb dX9_copyLand_108 rfl (lv_at hl 2 rfl) ?_
      refine lv_imul hx hb dX9_copyLand_109 ?_
      refine z_topi (y := 0) (by decide +kernel) ?_
      refine lv_iload_n hx hb dX9_copyLand_110 rfl (lv_at hl 0 rfl) ?_
      refine lv_iadd hx hb dX9_copyLand_111 ?_
      refine z_topi (y := nI (0 + i)) (nI_add 0 i) ?_
      refine va_iald hx hb hK hP 3 1 rfl rfl (z_in (nI_toInt (by omega)) (by omega) (by omega)) dX9_copyLand_112 ?_
      refine z_topi (y := 0) rfl ?_
      refine z_iast0 hx hb hK hP hD hS 3 1 rfl rfl (z_in (nI_toInt (by omega)) (by omega) (by omega)) rfl dX9_copyLand_113 (fun H locs hP hS => ?_)
      refine lv_aload_n hx hb dX9_copyLand_114 rfl (lv_at hl 1 rfl) ?_
      refine va_get (D := (dC, dI)) (ci := 9) (v := .ref (am 9)) (C := RX9) (T := TX9) (N := 60) hx hb hts hi9 hown hK hP 0 rfl rfl 19 (by decide) hk13 (fun _ h9 => h9) rfl dX9_copyLand_115 ?_
      refine lv_bipush (v := 6) hx hb dX9_copyLand_118 (by decide) ?_
      refine lv_iload_n hx hb dX9_copyLand_120 rfl (lv_at hl 3 rfl) ?_
      refine lv_imul hx hb dX9_copyLand_121 ?_
      refine z_topi (y := 6) (by decide +kernel) ?_
      refine lv_iload_n hx hb dX9_copyLand_122 rfl (lv_at hl 0 rfl) ?_
      refine lv_iadd hx hb dX9_copyLand_123 ?_
      refine z_topi (y := nI (6 + i)) (nI_add 6 i) ?_
      refine lv_aload_n hx hb dX9_copyLand_124 rfl (lv_at hl 1 rfl) ?_
      refine va_get (D := (dC, dI)) (ci := 9) (v := .ref (am 9)) (C := RX9) (T := TX9) (N := 60) hx hb hts hi9 hown hK hP 0 rfl rfl 19 (by decide) hk13 (fun _ h9 => h9) rfl dX9_copyLand_125 ?_
      refine lv_bipush (v := 6) hx hb dX9_copyLand_128 (by decide) ?_
      refine lv_iload_n hx hb dX9_copyLand_130 rfl (lv_at hl 2 rfl) ?_
      refine lv_imul hx hb dX9_copyLand_131 ?_
      refine z_topi (y := 0) (by decide +kernel) ?_
      refine lv_iload_n hx hb dX9_copyLand_132 rfl (lv_at hl 0 rfl) ?_
      refine lv_iadd hx hb dX9_copyLand_133 ?_
      refine z_topi (y := nI (0 + i)) (nI_add 0 i) ?_
      refine va_iald hx hb hK hP 4 1 rfl rfl (z_in (nI_toInt (by omega)) (by omega) (by omega)) dX9_copyLand_134 ?_
      refine z_topi (y := 0) rfl ?_
      refine z_iast0 hx hb hK hP hD hS 4 1 rfl rfl (z_in (nI_toInt (by omega)) (by omega) (by omega)) rfl dX9_copyLand_135 (fun H locs hP hS => ?_)
      refine lv_iinc (v := nI (i + 1)) (lv' := [(3, .int (nI (i + 1))), (0, .ref (am 0)), (1, .int 0), (2, .int 1)]) hx hb dX9_copyLand_136 hl (k := 0) rfl (nI_1 i) (by decide) rfl (fun ls hl => ?_)
      refine lv_goto (tgt := 86) hx hb dX9_copyLand_139 (by decide) ?_
      exact ih (i + 1) (by omega) (by omega) _ _ hP hS ls (lv_sub hl [0, 1, 2, 3] rfl)
  exact hlp1 6 0 rfl (by omega) _ _ hP hS ls (lv_sub hl [0, 1, 2, 3] rfl)
set_option maxHeartbeats 4000000 in
set_option maxRecDepth 100000 in
theorem c_X9_copySheets_252 (l : Launch) (dC : Nat → ClassId) (dI : Nat → Nat → Nat) (cB cI cJ cZ cP cQ : ClassId) (am : Nat → Nat) (sz : Nat) : Met l yX9_copySheets wsX9_copySheets ({ frames := 0, cells := 0, slots := 0, locals := 0 } : Room) (zPc [.ref (am 0), .int 0, .int 1] (dC, dI) (zT cB cI cJ cZ cP cQ) [(am 0, .inr (9, mf0 am)), (am 25, .inl (cI, 5, .inl (fun _ => 0)))] sz [] []) (va_Qv (fun _ => True) (zB (dC, dI) (zT cB cI cJ cZ cP cQ) (fun _ : Unit => [(am 0, .inr (9, mf0 am)), (am 25, .inl (cI, 5, .inl (fun _ => 0)))]) [(am 0, .inr (9, mf0 am)), (am 25, .inl (cI, 5, .inl (fun _ => 0)))] sz) (va_A [(am 0, .inr (9, mf0 am)), (am 25, .inl (cI, 5, .inl (fun _ => 0)))] sz)) 0 0 (va_A [(am 0, .inr (9, mf0 am)), (am 25, .inl (cI, 5, .inl (fun _ => 0)))] sz) := by
  refine z_enter (cc := cX9_copySheets) (maxL := 4) (ret := none) (by decide) rfl (Nat.le_of_ble_eq_true rfl) ?_
  intro p e s m below meth c A ls Q H locs hx hb hr hml hown hts hlocks hin hK hP hD hA hX hS hAe hQ hl
  have hown : s.vm.findClass RX9 = some m.cls := hown
  have hi9 : ∀ w ∈ wsX90, w ∈ wsX9_copySheets := fun w h => List.mem_cons_of_mem _ (List.mem_append_right _ h)
  have hk0 := hts (.fieldLink RX9 89 "MonthPushModel" "sheets" "[I") (by decide +kernel)
  have hl : lv_has ls 4 [(0, .ref (am 0)), (1, .int 0), (2, .int 1)] := hl
  refine lv_aload_n hx hb dX9_copySheets_0 rfl (lv_at hl 0 rfl) ?_
  refine va_get (D := (dC, dI)) (ci := 9) (v := .ref (am 25)) (C := RX9) (T := TX9) (N := 60) hx hb hts hi9 hown hK hP 0 rfl rfl 35 (by decide) hk0 (fun _ h9 => h9) rfl dX9_copySheets_1 ?_
  refine lv_iload_n hx hb dX9_copySheets_4 rfl (lv_at hl 2 rfl) ?_
  refine lv_aload_n hx hb dX9_copySheets_5 rfl (lv_at hl 0 rfl) ?_
  refine va_get (D := (dC, dI)) (ci := 9) (v := .ref (am 25)) (C := RX9) (T := TX9) (N := 60) hx hb hts hi9 hown hK hP 0 rfl rfl 35 (by decide) hk0 (fun _ h9 => h9) rfl dX9_copySheets_6 ?_
  refine lv_iload_n hx hb dX9_copySheets_9 rfl (lv_at hl 1 rfl) ?_
  refine va_iald hx hb hK hP 1 1 rfl rfl (z_in (a := 0) (by decide) (by decide) (by decide)) dX9_copySheets_10 ?_
  refine z_topi (y := 0) rfl ?_
  refine z_iast0 hx hb hK hP hD hS 1 1 rfl rfl (z_in (a := 1) (by decide) (by decide) (by decide)) rfl dX9_copySheets_11 (fun H locs hP hS => ?_)
  refine lv_iconst (v := 0) hx hb dX9_copySheets_12 (by decide) ?_
  refine lv_istore_n (lv' := [(3, .int 0), (0, .ref (am 0)), (1, .int 0), (2, .int 1)]) hx hb dX9_copySheets_13 rfl hl (by decide) rfl (fun ls hl => ?_)
  refine lv_iload_n hx hb dX9_copySheets_14 rfl (lv_at hl 0 rfl) ?_
  refine lv_aload_n hx hb dX9_copySheets_15 rfl (lv_at hl 1 rfl) ?_
  refine va_get (D := (dC, dI)) (ci := 9) (v := .ref (am 25)) (C := RX9) (T := TX9) (N := 60) hx hb hts hi9 hown hK hP 0 rfl rfl 35 (by decide) hk0 (fun _ h9 => h9) rfl dX9_copySheets_16 ?_
  refine lv_iload_n hx hb dX9_copySheets_19 rfl (lv_at hl 2 rfl) ?_
  refine va_iald hx hb hK hP 1 1 rfl rfl (z_in (a := 0) (by decide) (by decide) (by decide)) dX9_copySheets_20 ?_
  refine z_topi (y := 0) rfl ?_
  refine lv_icmp_ge (tgt := 48) hx hb dX9_copySheets_21 (by decide) (fun _ => ?_) (fun c => absurd (by decide) c)
  exact z_vret () hx hb hr hlocks hK hP hD hS hAe hQ rfl trivial dX9_copySheets_48
set_option maxHeartbeats 4000000 in
set_option maxRecDepth 100000 in
theorem c_X9_copyLand_253 (l : Launch) (dC : Nat → ClassId) (dI : Nat → Nat → Nat) (cB cI cJ cZ cP cQ : ClassId) (am : Nat → Nat) (sz : Nat) : Met l yX9_copyLand wsX9_copyLand ({ frames := 0, cells := 0, slots := 0, locals := 0 } : Room) (zPc [.ref (am 0), .int 0, .int 2] (dC, dI) (zT cB cI cJ cZ cP cQ) [(am 0, .inr (9, mf0 am)), (am 6, .inl (cI, 5, .inl (fun _ => 0))), (am 7, .inl (cI, 5, .inl (fun _ => 0))), (am 8, .inl (cI, 30, .inl (fun _ => 0))), (am 9, .inl (cI, 30, .inl (fun _ => 0))), (am 10, .inl (cI, 5, .inl (fun _ => 0))), (am 11, .inl (cI, 40, .inl (fun _ => 0))), (am 12, .inl (cI, 40, .inl (fun _ => 0))), (am 13, .inl (cI, 40, .inl (fun _ => 0))), (am 14, .inl (cI, 40, .inl (fun _ => 0))), (am 16, .inl (cI, 60, .inl (fun _ => 0))), (am 17, .inl (cZ, 5, .inl (fun _ => 0))), (am 19, .inl (cI, 5, .inl (fun _ => 0))), (am 20, .inl (cI, 5, .inl (fun _ => 0))), (am 21, .inl (cI, 5, .inl (fun _ => 0)))] sz [] []) (va_Qv (fun _ => True) (zB (dC, dI) (zT cB cI cJ cZ cP cQ) (fun _ : Unit => [(am 0, .inr (9, mf0 am)), (am 6, .inl (cI, 5, .inl (fun _ => 0))), (am 7, .inl (cI, 5, .inl (fun _ => 0))), (am 8, .inl (cI, 30, .inl (fun _ => 0))), (am 9, .inl (cI, 30, .inl (fun _ => 0))), (am 10, .inl (cI, 5, .inl (fun _ => 0))), (am 11, .inl (cI, 40, .inl (fun _ => 0))), (am 12, .inl (cI, 40, .inl (fun _ => 0))), (am 13, .inl (cI, 40, .inl (fun _ => 0))), (am 14, .inl (cI, 40, .inl (fun _ => 0))), (am 16, .inl (cI, 60, .inl (fun _ => 0))), (am 17, .inl (cZ, 5, .inl (fun _ => 0))), (am 19, .inl (cI, 5, .inl (fun _ => 0))), (am 20, .inl (cI, 5, .inl (fun _ => 0))), (am 21, .inl (cI, 5, .inl (fun _ => 0)))]) [(am 0, .inr (9, mf0 am)), (am 6, .inl (cI, 5, .inl (fun _ => 0))), (am 7, .inl (cI, 5, .inl (fun _ => 0))), (am 8, .inl (cI, 30, .inl (fun _ => 0))), (am 9, .inl (cI, 30, .inl (fun _ => 0))), (am 10, .inl (cI, 5, .inl (fun _ => 0))), (am 11, .inl (cI, 40, .inl (fun _ => 0))), (am 12, .inl (cI, 40, .inl (fun _ => 0))), (am 13, .inl (cI, 40, .inl (fun _ => 0))), (am 14, .inl (cI, 40, .inl (fun _ => 0))), (am 16, .inl (cI, 60, .inl (fun _ => 0))), (am 17, .inl (cZ, 5, .inl (fun _ => 0))), (am 19, .inl (cI, 5, .inl (fun _ => 0))), (am 20, .inl (cI, 5, .inl (fun _ => 0))), (am 21, .inl (cI, 5, .inl (fun _ => 0)))] sz) (va_A [(am 0, .inr (9, mf0 am)), (am 6, .inl (cI, 5, .inl (fun _ => 0))), (am 7, .inl (cI, 5, .inl (fun _ => 0))), (am 8, .inl (cI, 30, .inl (fun _ => 0))), (am 9, .inl (cI, 30, .inl (fun _ => 0))), (am 10, .inl (cI, 5, .inl (fun _ => 0))), (am 11, .inl (cI, 40, .inl (fun _ => 0))), (am 12, .inl (cI, 40, .inl (fun _ => 0))), (am 13, .inl (cI, 40, .inl (fun _ => 0))), (am 14, .inl (cI, 40, .inl (fun _ => 0))), (am 16, .inl (cI, 60, .inl (fun _ => 0))), (am 17, .inl (cZ, 5, .inl (fun _ => 0))), (am 19, .inl (cI, 5, .inl (fun _ => 0))), (am 20, .inl (cI, 5, .inl (fun _ => 0))), (am 21, .inl (cI, 5, .inl (fun _ => 0)))] sz)) 0 0 (va_A [(am 0, .inr (9, mf0 am)), (am 6, .inl (cI, 5, .inl (fun _ => 0))), (am 7, .inl (cI, 5, .inl (fun _ => 0))), (am 8, .inl (cI, 30, .inl (fun _ => 0))), (am 9, .inl (cI, 30, .inl (fun _ => 0))), (am 10, .inl (cI, 5, .inl (fun _ => 0))), (am 11, .inl (cI, 40, .inl (fun _ => 0))), (am 12, .inl (cI, 40, .inl (fun _ => 0))), (am 13, .inl (cI, 40, .inl (fun _ => 0))), (am 14, .inl (cI, 40, .inl (fun _ => 0))), (am 16, .inl (cI, 60, .inl (fun _ => 0))), (am 17, .inl (cZ, 5, .inl (fun _ => 0))), (am 19, .inl (cI, 5, .inl (fun _ => 0))), (am 20, .inl (cI, 5, .inl (fun _ => 0))), (am 21, .inl (cI, 5, .inl (fun _ => 0)))] sz) := by
  refine z_enter (cc := cX9_copyLand) (maxL := 4) (ret := none) (by decide) rfl (Nat.le_of_ble_eq_true rfl) ?_
  intro p e s m below meth c A ls Q H locs hx hb hr hml hown hts hlocks hin hK hP hD hA hX hS hAe hQ hl
  have hown : s.vm.findClass RX9 = some m.cls := hown
  have hi9 : ∀ w ∈ wsX90, w ∈ wsX9_copyLand := fun w h => List.mem_cons_of_mem _ (List.mem_append_right _ h)
  have hk0 := hts (.fieldLink RX9 31 "MonthPushModel" "lines" "[I") (by decide +kernel)
  have hk1 := hts (.fieldLink RX9 34 "MonthPushModel" "laws" "[I") (by decide +kernel)
  have hk2 := hts (.fieldLink RX9 43 "MonthPushModel" "sorts" "[I") (by decide +kernel)
  have hk3 := hts (.fieldLink RX9 74 "MonthPushModel" "parts" "[I") (by decide +kernel)
  have hk4 := hts (.fieldLink RX9 77 "MonthPushModel" "coded" "[I") (by decide +kernel)
  have hk5 := hts (.fieldLink RX9 71 "MonthPushModel" "noise" "[I") (by decide +kernel)
  have hk6 := hts (.fieldLink RX9 65 "MonthPushModel" "hasWage" "[Z") (by decide +kernel)
  have hk7 := hts (.fieldLink RX9 62 "MonthPushModel" "leakBy" "[I") (by decide +kernel)
  have hk8 := hts (.fieldLink RX9 46 "MonthPushModel" "share" "[I") (by decide +kernel)
  have hk9 := hts (.fieldLink RX9 49 "MonthPushModel" "giftOf" "[I") (by decide +kernel)
  have hk10 := hts (.fieldLink RX9 52 "MonthPushModel" "wishOf" "[I") (by decide +kernel)
  have hk11 := hts (.fieldLink RX9 55 "MonthPushModel" "spread" "[I") (by decide +kernel)
  have hk12 := hts (.fieldLink RX9 37 "MonthPushModel" "enter" "[I") (by decide +kernel)
  have hk13 := hts (.fieldLink RX9 40 "MonthPushModel" "leave" "[I") (by decide +kernel)
  have hl : lv_has ls 4 [(0, .ref (am 0)), (1, .int 0), (2, .int 2)] := hl
  refine lv_aload_n hx hb dX9_copyLand_0 rfl (lv_at hl 0 rfl) ?_
  refine va_get (D := (dC, dI)) (ci := 9) (v := .ref (am 6)) (C := RX9) (T := TX9) (N := 60) hx hb hts hi9 hown hK hP 0 rfl rfl 16 (by decide) hk0 (fun _ h9 => h9) rfl dX9_copyLand_1 ?_
  refine lv_iload_n hx hb dX9_copyLand_4 rfl (lv_at hl 2 rfl) ?_
  refine lv_aload_n hx hb dX9_copyLand_5 rfl (lv_at hl 0 rfl) ?_
  refine va_get (D := (dC, dI)) (ci := 9) (v := .ref (am 6)) (C := RX9) (T := TX9) (N := 60) hx hb hts hi9 hown hK hP 0 rfl rfl 16 (by decide) hk0 (fun _ h9 => h9) rfl dX9_copyLand_6 ?_
  refine lv_iload_n hx hb dX9_copyLand_9 rfl (lv_at hl 1 rfl) ?_
  refine va_iald hx hb hK hP 1 1 rfl rfl (z_in (a := 0) (by decide) (by decide) (by decide)) dX9_copyLand_10 ?_
  refine z_topi (y := 0) rfl ?_
  refine z_iast0 hx hb hK hP hD hS 1 1 rfl rfl (z_in (a := 2) (by decide) (by decide) (by decide)) rfl dX9_copyLand_11 (fun H locs hP hS => ?_)
  refine lv_aload_n hx hb dX9_copyLand_12 rfl (lv_at hl 0 rfl) ?_
  refine va_get (D := (dC, dI)) (ci := 9) (v := .ref (am 7)) (C := RX9) (T := TX9) (N := 60) hx hb hts hi9 hown hK hP 0 rfl rfl 17 (by decide) hk1 (fun _ h9 => h9) rfl dX9_copyLand_13 ?_
  refine lv_iload_n hx hb dX9_copyLand_16 rfl (lv_at hl 2 rfl) ?_
  refine lv_aload_n hx hb dX9_copyLand_17 rfl (lv_at hl 0 rfl) ?_
  refine va_get (D := (dC, dI)) (ci := 9) (v := .ref (am 7)) (C := RX9) (T := TX9) (N := 60) hx hb hts hi9 hown hK hP 0 rfl rfl 17 (by decide) hk1 (fun _ h9 => h9) rfl dX9_copyLand_18 ?_
  refine lv_iload_n hx hb dX9_copyLand_21 rfl (lv_at hl 1 rfl) ?_
  refine va_iald hx hb hK hP 2 1 rfl rfl (z_in (a := 0) (by decide) (by decide) (by decide)) dX9_copyLand_22 ?_
  refine z_topi (y := 0) rfl ?_
  refine z_iast0 hx hb hK hP hD hS 2 1 rfl rfl (z_in (a := 2) (by decide) (by decide) (by decide)) rfl dX9_copyLand_23 (fun H locs hP hS => ?_)
  refine lv_aload_n hx hb dX9_copyLand_24 rfl (lv_at hl 0 rfl) ?_
  refine va_get (D := (dC, dI)) (ci := 9) (v := .ref (am 10)) (C := RX9) (T := TX9) (N := 60) hx hb hts hi9 hown hK hP 0 rfl rfl 20 (by decide) hk2 (fun _ h9 => h9) rfl dX9_copyLand_25 ?_
  refine lv_iload_n hx hb dX9_copyLand_28 rfl (lv_at hl 2 rfl) ?_
  refine lv_aload_n hx hb dX9_copyLand_29 rfl (lv_at hl 0 rfl) ?_
  refine va_get (D := (dC, dI)) (ci := 9) (v := .ref (am 10)) (C := RX9) (T := TX9) (N := 60) hx hb hts hi9 hown hK hP 0 rfl rfl 20 (by decide) hk2 (fun _ h9 => h9) rfl dX9_copyLand_30 ?_
  refine lv_iload_n hx hb dX9_copyLand_33 rfl (lv_at hl 1 rfl) ?_
  refine va_iald hx hb hK hP 5 1 rfl rfl (z_in (a := 0) (by decide) (by decide) (by decide)) dX9_copyLand_34 ?_
  refine z_topi (y := 0) rfl ?_
  refine z_iast0 hx hb hK hP hD hS 5 1 rfl rfl (z_in (a := 2) (by decide) (by decide) (by decide)) rfl dX9_copyLand_35 (fun H locs hP hS => ?_)
  refine lv_aload_n hx hb dX9_copyLand_36 rfl (lv_at hl 0 rfl) ?_
  refine va_get (D := (dC, dI)) (ci := 9) (v := .ref (am 20)) (C := RX9) (T := TX9) (N := 60) hx hb hts hi9 hown hK hP 0 rfl rfl 30 (by decide) hk3 (fun _ h9 => h9) rfl dX9_copyLand_37 ?_
  refine lv_iload_n hx hb dX9_copyLand_40 rfl (lv_at hl 2 rfl) ?_
  refine lv_aload_n hx hb dX9_copyLand_41 rfl (lv_at hl 0 rfl) ?_
  refine va_get (D := (dC, dI)) (ci := 9) (v := .ref (am 20)) (C := RX9) (T := TX9) (N := 60) hx hb hts hi9 hown hK hP 0 rfl rfl 30 (by decide) hk3 (fun _ h9 => h9) rfl dX9_copyLand_42 ?_
  refine lv_iload_n hx hb dX9_copyLand_45 rfl (lv_at hl 1 rfl) ?_
  refine va_iald hx hb hK hP 13 1 rfl rfl (z_in (a := 0) (by decide) (by decide) (by decide)) dX9_copyLand_46 ?_
  refine z_topi (y := 0) rfl ?_
  refine z_iast0 hx hb hK hP hD hS 13 1 rfl rfl (z_in (a := 2) (by decide) (by decide) (by decide)) rfl dX9_copyLand_47 (fun H locs hP hS => ?_)
  refine lv_aload_n hx hb dX9_copyLand_48 rfl (lv_at hl 0 rfl) ?_
  refine va_get (D := (dC, dI)) (ci := 9) (v := .ref (am 21)) (C := RX9) (T := TX9) (N := 60) hx hb hts hi9 hown hK hP 0 rfl rfl 31 (by decide) hk4 (fun _ h9 => h9) rfl dX9_copyLand_49 ?_
  refine lv_iload_n hx hb dX9_copyLand_52 rfl (lv_at hl 2 rfl) ?_
  refine lv_aload_n hx hb dX9_copyLand_53 rfl (lv_at hl 0 rfl) ?_
  refine va_get (D := (dC, dI)) (ci := 9) (v := .ref (am 21)) (C := RX9) (T := TX9) (N := 60) hx hb hts hi9 hown hK hP 0 rfl rfl 31 (by decide) hk4 (fun _ h9 => h9) rfl dX9_copyLand_54 ?_
  refine lv_iload_n hx hb dX9_copyLand_57 rfl (lv_at hl 1 rfl) ?_
  refine va_iald hx hb hK hP 14 1 rfl rfl (z_in (a := 0) (by decide) (by decide) (by decide)) dX9_copyLand_58 ?_
  refine z_topi (y := 0) rfl ?_
  refine z_iast0 hx hb hK hP hD hS 14 1 rfl rfl (z_in (a := 2) (by decide) (by decide) (by decide)) rfl dX9_copyLand_59 (fun H locs hP hS => ?_)
  refine lv_aload_n hx hb dX9_copyLand_60 rfl (lv_at hl 0 rfl) ?_
  refine va_get (D := (dC, dI)) (ci := 9) (v := .ref (am 19)) (C := RX9) (T := TX9) (N := 60) hx hb hts hi9 hown hK hP 0 rfl rfl 29 (by decide) hk5 (fun _ h9 => h9) rfl dX9_copyLand_61 ?_
  refine lv_iload_n hx hb dX9_copyLand_64 rfl (lv_at hl 2 rfl) ?_
  refine lv_aload_n hx hb dX9_copyLand_65 rfl (lv_at hl 0 rfl) ?_
  refine va_get (D := (dC, dI)) (ci := 9) (v := .ref (am 19)) (C := RX9) (T := TX9) (N := 60) hx hb hts hi9 hown hK hP 0 rfl rfl 29 (by decide) hk5 (fun _ h9 => h9) rfl dX9_copyLand_66 ?_
  refine lv_iload_n hx hb dX9_copyLand_69 rfl (lv_at hl 1 rfl) ?_
  refine va_iald hx hb hK hP 12 1 rfl rfl (z_in (a := 0) (by decide) (by decide) (by decide)) dX9_copyLand_70 ?_
  refine z_topi (y := 0) rfl ?_
  refine z_iast0 hx hb hK hP hD hS 12 1 rfl rfl (z_in (a := 2) (by decide) (by decide) (by decide)) rfl dX9_copyLand_71 (fun H locs hP hS => ?_)
  refine lv_aload_n hx hb dX9_copyLand_72 rfl (lv_at hl 0 rfl) ?_
  refine va_get (D := (dC, dI)) (ci := 9) (v := .ref (am 17)) (C := RX9) (T := TX9) (N := 60) hx hb hts hi9 hown hK hP 0 rfl rfl 27 (by decide) hk6 (fun _ h9 => h9) rfl dX9_copyLand_73 ?_
  refine lv_iload_n hx hb dX9_copyLand_76 rfl (lv_at hl 2 rfl) ?_
  refine lv_aload_n hx hb dX9_copyLand_77 rfl (lv_at hl 0 rfl) ?_
  refine va_get (D := (dC, dI)) (ci := 9) (v := .ref (am 17)) (C := RX9) (T := TX9) (N := 60) hx hb hts hi9 hown hK hP 0 rfl rfl 27 (by decide) hk6 (fun _ h9 => h9) rfl dX9_copyLand_78 ?_
  refine lv_iload_n hx hb dX9_copyLand_81 rfl (lv_at hl 1 rfl) ?_
  refine va_zald hx hb hK hP 11 3 rfl rfl (z_in (a := 0) (by decide) (by decide) (by decide)) dX9_copyLand_82 ?_
  refine z_topi (y := 0) rfl ?_
  refine z_zast0 hx hb hK hP hD hS 11 3 rfl rfl (z_in (a := 2) (by decide) (by decide) (by decide)) (by decide) dX9_copyLand_83 (fun H locs hP hS => ?_)
  refine lv_iconst (v := 0) hx hb dX9_copyLand_84 (by decide) ?_
  refine lv_istore_n (lv' := [(3, .int 0), (0, .ref (am 0)), (1, .int 0), (2, .int 2)]) hx hb dX9_copyLand_85 rfl hl (by decide) rfl (fun ls hl => ?_)
  have hlp1 : ∀ (n i : Nat), i + n = 6 → 0 ≤ i → ∀ (H : Heap) (locs : List Loc), va_P (dC, dI) vwCl [(am 0, .inr (9, mf0 am)), (am 6, .inl (cI, 5, .inl (fun _ => 0))), (am 7, .inl (cI, 5, .inl (fun _ => 0))), (am 8, .inl (cI, 30, .inl (fun _ => 0))), (am 9, .inl (cI, 30, .inl (fun _ => 0))), (am 10, .inl (cI, 5, .inl (fun _ => 0))), (am 11, .inl (cI, 40, .inl (fun _ => 0))), (am 12, .inl (cI, 40, .inl (fun _ => 0))), (am 13, .inl (cI, 40, .inl (fun _ => 0))), (am 14, .inl (cI, 40, .inl (fun _ => 0))), (am 16, .inl (cI, 60, .inl (fun _ => 0))), (am 17, .inl (cZ, 5, .inl (fun _ => 0))), (am 19, .inl (cI, 5, .inl (fun _ => 0))), (am 20, .inl (cI, 5, .inl (fun _ => 0))), (am 21, .inl (cI, 5, .inl (fun _ => 0)))] H → va_S A s.heap H locs → ∀ (ls : Array Slot), lv_has ls 4 [(3, .int (nI i)), (0, .ref (am 0)), (1, .int 0), (2, .int 2)] → W p l e ({ frames := 0, cells := 0, slots := 0, locals := 0 } : Room) s m ([.ref (am 0), .int 0, .int 2] : List Value).toArray below meth c H locs 0 0 Q (F0 m 86 ls []) := by
    intro n
    induction n with
    | zero =>
      intro i hi hi0 H locs hP hS ls hl
      obtain rfl : i = 6 := by omega
      have hl : lv_has ls 4 [(3, .int 6), (0, .ref (am 0)), (1, .int 0), (2, .int 2)] := hl
      refine lv_iload_n hx hb dX9_copyLand_86 rfl (lv_at hl 0 rfl) ?_
      refine lv_bipush (v := 6) hx hb dX9_copyLand_87 (by decide) ?_
      refine lv_icmp_ge (tgt := 142) hx hb dX9_copyLand_89 (by decide) (fun _ => ?_) (fun c => absurd (by decide) c)
      refine lv_iconst (v := 0) hx hb dX9_copyLand_142 (by decide) ?_
      refine lv_istore_n (lv' := [(3, .int 0), (0, .ref (am 0)), (1, .int 0), (2, .int 2)]) hx hb dX9_copyLand_143 rfl hl (by decide) rfl (fun ls hl => ?_)
      have hlp2 : ∀ (n i : Nat), i + n = 8 → 0 ≤ i → ∀ (H : Heap) (locs : List Loc), va_P (dC, dI) vwCl [(am 0, .inr (9, mf0 am)), (am 6, .inl (cI, 5, .inl (fun _ => 0))), (am 7, .inl (cI, 5, .inl (fun _ => 0))), (am 8, .inl (cI, 30, .inl (fun _ => 0))), (am 9, .inl (cI, 30, .inl (fun _ => 0))), (am 10, .inl (cI, 5, .inl (fun _ => 0))), (am 11, .inl (cI, 40, .inl (fun _ => 0))), (am 12, .inl (cI, 40, .inl (fun _ => 0))), (am 13, .inl (cI, 40, .inl (fun _ => 0))), (am 14, .inl (cI, 40, .inl (fun _ => 0))), (am 16, .inl (cI, 60, .inl (fun _ => 0))), (am 17, .inl (cZ, 5, .inl (fun _ => 0))), (am 19, .inl (cI, 5, .inl (fun _ => 0))), (am 20, .inl (cI, 5, .inl (fun _ => 0))), (am 21, .inl (cI, 5, .inl (fun _ => 0)))] H → va_S A s.heap H locs → ∀ (ls : Array Slot), lv_has ls 4 [(3, .int (nI i)), (0, .ref (am 0)), (1, .int 0), (2, .int 2)] → W p l e ({ frames := 0, cells := 0, slots := 0, locals := 0 } : Room) s m ([.ref (am 0), .int 0, .int 2] : List Value).toArray below meth c H locs 0 0 Q (F0 m 144 ls []) := by
        intro n
        induction n with
        | zero =>
          intro i hi hi0 H locs hP hS ls hl
          obtain rfl : i = 8 := by omega
          have hl : lv_has ls 4 [(3, .int 8), (0, .ref (am 0)), (1, .int 0), (2, .int 2)] := hl
          refine lv_iload_n hx hb dX9_copyLand_144 rfl (lv_at hl 0 rfl) ?_
          refine lv_bipush (v := 8) hx hb dX9_copyLand_145 (by decide) ?_
          refine lv_icmp_ge (tgt := 244) hx hb dX9_copyLand_147 (by decide) (fun _ => ?_) (fun c => absurd (by decide) c)
          refine lv_iconst (v := 0) hx hb dX9_copyLand_244 (by decide) ?_
          refine lv_istore_n (lv' := [(3, .int 0), (0, .ref (am 0)), (1, .int 0), (2, .int 2)]) hx hb dX9_copyLand_245 rfl hl (by decide) rfl (fun ls hl => ?_)
          have hlp3 : ∀ (n i : Nat), i + n = 12 → 0 ≤ i → ∀ (H : Heap) (locs : List Loc), va_P (dC, dI) vwCl [(am 0, .inr (9, mf0 am)), (am 6, .inl (cI, 5, .inl (fun _ => 0))), (am 7, .inl (cI, 5, .inl (fun _ => 0))), (am 8, .inl (cI, 30, .inl (fun _ => 0))), (am 9, .inl (cI, 30, .inl (fun _ => 0))), (am 10, .inl (cI, 5, .inl (fun _ => 0))), (am 11, .inl (cI, 40, .inl (fun _ => 0))), (am 12, .inl (cI, 40, .inl (fun _ => 0))), (am 13, .inl (cI, 40, .inl (fun _ => 0))), (am 14, .inl (cI, 40, .inl (fun _ => 0))), (am 16, .inl (cI, 60, .inl (fun _ => 0))), (am 17, .inl (cZ, 5, .inl (fun _ => 0))), (am 19, .inl (cI, 5, .inl (fun _ => 0))), (am 20, .inl (cI, 5, .inl (fun _ => 0))), (am 21, .inl (cI, 5, .inl (fun _ => 0)))] H → va_S A s.heap H locs → ∀ (ls : Array Slot), lv_has ls 4 [(3, .int (nI i)), (0, .ref (am 0)), (1, .int 0), (2, .int 2)] → W p l e ({ frames := 0, cells := 0, slots := 0, locals := 0 } : Room) s m ([.ref (am 0), .int 0, .int 2] : List Value).toArray below meth c H locs 0 0 Q (F0 m 246 ls []) := by
            intro n
            induction n with
            | zero =>
              intro i hi hi0 H locs hP hS ls hl
              obtain rfl : i = 12 := by omega
              have hl : lv_has ls 4 [(3, .int 12), (0, .ref (am 0)), (1, .int 0), (2, .int 2)] := hl
              refine lv_iload_n hx hb dX9_copyLand_246 rfl (lv_at hl 0 rfl) ?_
              refine lv_bipush (v := 12) hx hb dX9_copyLand_247 (by decide) ?_
              refine lv_icmp_ge (tgt := 280) hx hb dX9_copyLand_249 (by decide) (fun _ => ?_) (fun c => absurd (by decide) c)
              refine lv_iconst (v := 0) hx hb dX9_copyLand_280 (by decide) ?_
              refine lv_istore_n (lv' := [(3, .int 0), (0, .ref (am 0)), (1, .int 0), (2, .int 2)]) hx hb dX9_copyLand_281 rfl hl (by decide) rfl (fun ls hl => ?_)
              refine lv_iload_n hx hb dX9_copyLand_282 rfl (lv_at hl 0 rfl) ?_
              refine lv_aload_n hx hb dX9_copyLand_283 rfl (lv_at hl 1 rfl) ?_
              refine va_get (D := (dC, dI)) (ci := 9) (v := .ref (am 21)) (C := RX9) (T := TX9) (N := 60) hx hb hts hi9 hown hK hP 0 rfl rfl 31 (by decide) hk4 (fun _ h9 => h9) rfl dX9_copyLand_284 ?_
              refine lv_iload_n hx hb dX9_copyLand_287 rfl (lv_at hl 2 rfl) ?_
              refine va_iald hx hb hK hP 14 1 rfl rfl (z_in (a := 0) (by decide) (by decide) (by decide)) dX9_copyLand_288 ?_
              refine z_topi (y := 0) rfl ?_
              refine lv_icmp_ge (tgt := 322) hx hb dX9_copyLand_289 (by decide) (fun _ => ?_) (fun c => absurd (by decide) c)
              exact z_vret () hx hb hr hlocks hK hP hD hS hAe hQ rfl trivial dX9_copyLand_322
            | succ n ih =>
              intro i hi hi0 H locs hP hS ls hl
              have hlt : i < 12 := by omega
              refine lv_iload_n hx hb dX9_copyLand_246 rfl (lv_at hl 0 rfl) ?_
              refine lv_bipush (v := 12) hx hb dX9_copyLand_247 (by decide) ?_
              refine lv_icmp_ge (tgt := 280) hx hb dX9_copyLand_249 (by decide) (fun c => absurd (show 12 ≤ (i : Int) from z_le (by decide) (nI_toInt (by omega)) c) (by omega)) (fun _ => ?_)
              refine lv_aload_n hx hb dX9_copyLand_252 rfl (lv_at hl 1 rfl) ?_
              refine va_get (D := (dC, dI)) (ci := 9) (v := .ref (am 16)) (C := RX9) (T := TX9) (N := 60) hx hb hts hi9 hown hK hP 0 rfl rfl 26 (by decide) hk7 (fun _ h9 => h9) rfl dX9_copyLand_253 ?_
              refine lv_bipush (v := 12) hx hb dX9_copyLand_256 (by decide) ?_
              refine lv_iload_n hx hb dX9_copyLand_258 rfl (lv_at hl 3 rfl) ?_
              refine lv_imul hx hb dX9_copyLand_259 ?_
              refine z_topi (y := 24) (by decide +kernel) ?_
              refine lv_iload_n hx hb dX9_copyLand_260 rfl (lv_at hl 0 rfl) ?_
              refine lv_iadd hx hb dX9_copyLand_261 ?_
              refine z_topi (y := nI (24 + i)) (nI_add 24 i) ?_
              refine lv_aload_n hx hb dX9_copyLand_262 rfl (lv_at hl 1 rfl) ?_
              refine va_get (D := (dC, dI)) (ci := 9) (v := .ref (am 16)) (C := RX9) (T := TX9) (N := 60) hx hb hts hi9 hown hK hP 0 rfl rfl 26 (by decide) hk7 (fun _ h9 => h9) rfl dX9_copyLand_263 ?_
              refine lv_bipush (v := 12) hx hb dX9_copyLand_266 (by decide) ?_
              refine lv_iload_n hx hb dX9_copyLand_268 rfl (lv_at hl 2 rfl) ?_
              refine lv_imul hx hb dX9_copyLand_269 ?_
              refine z_topi (y := 0) (by decide +kernel) ?_
              refine lv_iload_n hx hb dX9_copyLand_270 rfl (lv_at hl 0 rfl) ?_
              refine lv_iadd hx hb dX9_copyLand_271 ?_
              refine z_topi (y := nI (0 + i)) (nI_add 0 i) ?_
              refine va_iald hx hb hK hP 10 1 rfl rfl (z_in (nI_toInt (by omega)) (by omega) (by omega)) dX9_copyLand_272 ?_
              refine z_topi (y := 0) rfl ?_
              refine z_iast0 hx hb hK hP hD hS 10 1 rfl rfl (z_in (nI_toInt (by omega)) (by omega) (by omega)) rfl dX9_copyLand_273 (fun H locs hP hS => ?_)
              refine lv_iinc (v := nI (i + 1)) (lv' := [(3, .int (nI (i + 1))), (0, .ref (am 0)), (1, .int 0), (2, .int 2)]) hx hb dX9_copyLand_274 hl (k := 0) rfl (nI_1 i) (by decide) rfl (fun ls hl => ?_)
              refine lv_goto (tgt := 246) hx hb dX9_copyLand_277 (by decide) ?_
              exact ih (i + 1) (by omega) (by omega) _ _ hP hS ls (lv_sub hl [0, 1, 2, 3] rfl)
          exact hlp3 12 0 rfl (by omega) _ _ hP hS ls (lv_sub hl [0, 1, 2, 3] rfl)
        | succ n ih =>
          intro i hi hi0 H locs hP hS ls hl
          have hlt : i < 8 := by omega
          refine lv_iload_n hx hb dX9_copyLand_144 rfl (lv_at hl 0 rfl) ?_
          refine lv_bipush (v := 8) hx hb dX9_copyLand_145 (by decide) ?_
          refine lv_icmp_ge (tgt := 244) hx hb dX9_copyLand_147 (by decide) (fun c => absurd (show 8 ≤ (i : Int) from z_le (by decide) (nI_toInt (by omega)) c) (by omega)) (fun _ => ?_)
          refine lv_aload_n hx hb dX9_copyLand_150 rfl (lv_at hl 1 rfl) ?_
          refine va_get (D := (dC, dI)) (ci := 9) (v := .ref (am 11)) (C := RX9) (T := TX9) (N := 60) hx hb hts hi9 hown hK hP 0 rfl rfl 21 (by decide) hk8 (fun _ h9 => h9) rfl dX9_copyLand_151 ?_
          refine lv_bipush (v := 8) hx hb dX9_copyLand_154 (by decide) ?_
          refine lv_iload_n hx hb dX9_copyLand_156 rfl (lv_at hl 3 rfl) ?_
          refine lv_imul hx hb dX9_copyLand_157 ?_
          refine z_topi (y := 16) (by decide +kernel) ?_
          refine lv_iload_n hx hb dX9_copyLand_158 rfl (lv_at hl 0 rfl) ?_
          refine lv_iadd hx hb dX9_copyLand_159 ?_
          refine z_topi (y := nI (16 + i)) (nI_add 16 i) ?_
          refine lv_aload_n hx hb dX9_copyLand_160 rfl (lv_at hl 1 rfl) ?_
          refine va_get (D := (dC, dI)) (ci := 9) (v := .ref (am 11)) (C := RX9) (T := TX9) (N := 60) hx hb hts hi9 hown hK hP 0 rfl rfl 21 (by decide) hk8 (fun _ h9 => h9) rfl dX9_copyLand_161 ?_
          refine lv_bipush (v := 8) hx hb dX9_copyLand_164 (by decide) ?_
          refine lv_iload_n hx hb dX9_copyLand_166 rfl (lv_at hl 2 rfl) ?_
          refine lv_imul hx hb dX9_copyLand_167 ?_
          refine z_topi (y := 0) (by decide +kernel) ?_
          refine lv_iload_n hx hb dX9_copyLand_168 rfl (lv_at hl 0 rfl) ?_
          refine lv_iadd hx hb dX9_copyLand_169 ?_
          refine z_topi (y := nI (0 + i)) (nI_add 0 i) ?_
          refine va_iald hx hb hK hP 6 1 rfl rfl (z_in (nI_toInt (by omega)) (by omega) (by omega)) dX9_copyLand_170 ?_
          refine z_topi (y := 0) rfl ?_
          refine z_iast0 hx hb hK hP hD hS 6 1 rfl rfl (z_in (nI_toInt (by omega)) (by omega) (by omega)) rfl dX9_copyLand_171 (fun H locs hP hS => ?_)
          refine lv_aload_n hx hb dX9_copyLand_172 rfl (lv_at hl 1 rfl) ?_
          refine va_get (D := (dC, dI)) (ci := 9) (v := .ref (am 12)) (C := RX9) (T := TX9) (N := 60) hx hb hts hi9 hown hK hP 0 rfl rfl 22 (by decide) hk9 (fun _ h9 => h9) rfl dX9_copyLand_173 ?_
          refine lv_bipush (v := 8) hx hb dX9_copyLand_176 (by decide) ?_
          refine lv_iload_n hx hb dX9_copyLand_178 rfl (lv_at hl 3 rfl) ?_
          refine lv_imul hx hb dX9_copyLand_179 ?_
          refine z_topi (y := 16) (by decide +kernel) ?_
          refine lv_iload_n hx hb dX9_copyLand_180 rfl (lv_at hl 0 rfl) ?_
          refine lv_iadd hx hb dX9_copyLand_181 ?_
          refine z_topi (y := nI (16 + i)) (nI_add 16 i) ?_
          refine lv_aload_n hx hb dX9_copyLand_182 rfl (lv_at hl 1 rfl) ?_
          refine va_get (D := (dC, dI)) (ci := 9) (v := .ref (am 12)) (C := RX9) (T := TX9) (N := 60) hx hb hts hi9 hown hK hP 0 rfl rfl 22 (by decide) hk9 (fun _ h9 => h9) rfl dX9_copyLand_183 ?_
          refine lv_bipush (v := 8) hx hb dX9_copyLand_186 (by decide) ?_
          refine lv_iload_n hx hb dX9_copyLand_188 rfl (lv_at hl 2 rfl) ?_
          refine lv_imul hx hb dX9_copyLand_189 ?_
          refine z_topi (y := 0) (by decide +kernel) ?_
          refine lv_iload_n hx hb dX9_copyLand_190 rfl (lv_at hl 0 rfl) ?_
          refine lv_iadd hx hb dX9_copyLand_191 ?_
          refine z_topi (y := nI (0 + i)) (nI_add 0 i) ?_
          refine va_iald hx hb hK hP 7 1 rfl rfl (z_in (nI_toInt (by omega)) (by omega) (by omega)) dX9_copyLand_192 ?_
          refine z_topi (y := 0) rfl ?_
          refine z_iast0 hx hb hK hP hD hS 7 1 rfl rfl (z_in (nI_toInt (by omega)) (by omega) (by omega)) rfl dX9_copyLand_193 (fun H locs hP hS => ?_)
          refine lv_aload_n hx hb dX9_copyLand_194 rfl (lv_at hl 1 rfl) ?_
          refine va_get (D := (dC, dI)) (ci := 9) (v := .ref (am 13)) (C := RX9) (T := TX9) (N := 60) hx hb hts hi9 hown hK hP 0 rfl rfl 23 (by decide) hk10 (fun _ h9 => h9) rfl dX9_copyLand_195 ?_
          refine lv_bipush (v := 8) hx hb dX9_copyLand_198 (by decide) ?_
          refine lv_iload_n hx hb dX9_copyLand_200 rfl (lv_at hl 3 rfl) ?_
          refine lv_imul hx hb dX9_copyLand_201 ?_
          refine z_topi (y := 16) (by decide +kernel) ?_
          refine lv_iload_n hx hb dX9_copyLand_202 rfl (lv_at hl 0 rfl) ?_
          refine lv_iadd hx hb dX9_copyLand_203 ?_
          refine z_topi (y := nI (16 + i)) (nI_add 16 i) ?_
          refine lv_aload_n hx hb dX9_copyLand_204 rfl (lv_at hl 1 rfl) ?_
          refine va_get (D := (dC, dI)) (ci := 9) (v := .ref (am 13)) (C := RX9) (T := TX9) (N := 60) hx hb hts hi9 hown hK hP 0 rfl rfl 23 (by decide) hk10 (fun _ h9 => h9) rfl dX9_copyLand_205 ?_
          refine lv_bipush (v := 8) hx hb dX9_copyLand_208 (by decide) ?_
          refine lv_iload_n hx hb dX9_copyLand_210 rfl (lv_at hl 2 rfl) ?_
          refine lv_imul hx hb dX9_copyLand_211 ?_
          refine z_topi (y := 0) (by decide +kernel) ?_
          refine lv_iload_n hx hb dX9_copyLand_212 rfl (lv_at hl 0 rfl) ?_
          refine lv_iadd hx hb dX9_copyLand_213 ?_
          refine z_topi (y := nI (0 + i)) (nI_add 0 i) ?_
          refine va_iald hx hb hK hP 8 1 rfl rfl (z_in (nI_toInt (by omega)) (by omega) (by omega)) dX9_copyLand_214 ?_
          refine z_topi (y := 0) rfl ?_
          refine z_iast0 hx hb hK hP hD hS 8 1 rfl rfl (z_in (nI_toInt (by omega)) (by omega) (by omega)) rfl dX9_copyLand_215 (fun H locs hP hS => ?_)
          refine lv_aload_n hx hb dX9_copyLand_216 rfl (lv_at hl 1 rfl) ?_
          refine va_get (D := (dC, dI)) (ci := 9) (v := .ref (am 14)) (C := RX9) (T := TX9) (N := 60) hx hb hts hi9 hown hK hP 0 rfl rfl 24 (by decide) hk11 (fun _ h9 => h9) rfl dX9_copyLand_217 ?_
          refine lv_bipush (v := 8) hx hb dX9_copyLand_220 (by decide) ?_
          refine lv_iload_n hx hb dX9_copyLand_222 rfl (lv_at hl 3 rfl) ?_
          refine lv_imul hx hb dX9_copyLand_223 ?_
          refine z_topi (y := 16) (by decide +kernel) ?_
          refine lv_iload_n hx hb dX9_copyLand_224 rfl (lv_at hl 0 rfl) ?_
          refine lv_iadd hx hb dX9_copyLand_225 ?_
          refine z_topi (y := nI (16 + i)) (nI_add 16 i) ?_
          refine lv_aload_n hx hb dX9_copyLand_226 rfl (lv_at hl 1 rfl) ?_
          refine va_get (D := (dC, dI)) (ci := 9) (v := .ref (am 14)) (C := RX9) (T := TX9) (N := 60) hx hb hts hi9 hown hK hP 0 rfl rfl 24 (by decide) hk11 (fun _ h9 => h9) rfl dX9_copyLand_227 ?_
          refine lv_bipush (v := 8) hx hb dX9_copyLand_230 (by decide) ?_
          refine lv_iload_n hx hb dX9_copyLand_232 rfl (lv_at hl 2 rfl) ?_
          refine lv_imul hx hb dX9_copyLand_233 ?_
          refine z_topi (y := 0) (by decide +kernel) ?_
          refine lv_iload_n hx hb dX9_copyLand_234 rfl (lv_at hl 0 rfl) ?_
          refine lv_iadd hx hb dX9_copyLand_235 ?_
          refine z_topi (y := nI (0 + i)) (nI_add 0 i) ?_
          refine va_iald hx hb hK hP 9 1 rfl rfl (z_in (nI_toInt (by omega)) (by omega) (by omega)) dX9_copyLand_236 ?_
          refine z_topi (y := 0) rfl ?_
          refine z_iast0 hx hb hK hP hD hS 9 1 rfl rfl (z_in (nI_toInt (by omega)) (by omega) (by omega)) rfl dX9_copyLand_237 (fun H locs hP hS => ?_)
          refine lv_iinc (v := nI (i + 1)) (lv' := [(3, .int (nI (i + 1))), (0, .ref (am 0)), (1, .int 0), (2, .int 2)]) hx hb dX9_copyLand_238 hl (k := 0) rfl (nI_1 i) (by decide) rfl (fun ls hl => ?_)
          refine lv_goto (tgt := 144) hx hb dX9_copyLand_241 (by decide) ?_
          exact ih (i + 1) (by omega) (by omega) _ _ hP hS ls (lv_sub hl [0, 1, 2, 3] rfl)
      exact hlp2 8 0 rfl (by omega) _ _ hP hS ls (lv_sub hl [0, 1, 2, 3] rfl)
    | succ n ih =>
      intro i hi hi0 H locs hP hS ls hl
      have hlt : i < 6 := by omega
      refine lv_iload_n hx hb dX9_copyLand_86 rfl (lv_at hl 0 rfl) ?_
      refine lv_bipush (v := 6) hx hb dX9_copyLand_87 (by decide) ?_
      refine lv_icmp_ge (tgt := 142) hx hb dX9_copyLand_89 (by decide) (fun c => absurd (show 6 ≤ (i : Int) from z_le (by decide) (nI_toInt (by omega)) c) (by omega)) (fun _ => ?_)
      refine lv_aload_n hx hb dX9_copyLand_92 rfl (lv_at hl 1 rfl) ?_
      refine va_get (D := (dC, dI)) (ci := 9) (v := .ref (am 8)) (C := RX9) (T := TX9) (N := 60) hx hb hts hi9 hown hK hP 0 rfl rfl 18 (by decide) hk12 (fun _ h9 => h9) rfl dX9_copyLand_93 ?_
      refine lv_bipush (v := 6) hx hb dX9_copyLand_96 (by decide) ?_
      refine lv_iload_n hx hb dX9_copyLand_98 rfl (lv_at hl 3 rfl) ?_
      refine lv_imul hx hb dX9_copyLand_99 ?_
      refine z_topi (y := 12) (by decide +kernel) ?_
      refine lv_iload_n hx hb dX9_copyLand_100 rfl (lv_at hl 0 rfl) ?_
      refine lv_iadd hx hb dX9_copyLand_101 ?_
      refine z_topi (y := nI (12 + i)) (nI_add 12 i) ?_
      refine lv_aload_n hx hb dX9_copyLand_102 rfl (lv_at hl 1 rfl) ?_
      refine va_get (D := (dC, dI)) (ci := 9) (v := .ref (am 8)) (C := RX9) (T := TX9) (N := 60) hx hb hts hi9 hown hK hP 0 rfl rfl 18 (by decide) hk12 (fun _ h9 => h9) rfl dX9_copyLand_103 ?_
      refine lv_bipush (v := 6) hx hb dX9_copyLand_106 (by decide) ?_
      refine lv_iload_n hx hb dX9_copyLand_108 rfl (lv_at hl 2 rfl) ?_
      refine lv_imul hx hb dX9_copyLand_109 ?_
      refine z_topi (y := 0) (by decide +kernel) ?_
      refine lv_iload_n hx hb dX9_copyLand_110 rfl (lv_at hl 0 rfl) ?_
      refine lv_iadd hx hb dX9_copyLand_111 ?_
      refine z_topi (y := nI (0 + i)) (nI_add 0 i) ?_
      refine va_iald hx hb hK hP 3 1 rfl rfl (z_in (nI_toInt (by omega)) (by omega) (by omega)) dX9_copyLand_112 ?_
      refine z_topi (y := 0) rfl ?_
      refine z_iast0 hx hb hK hP hD hS 3 1 rfl rfl (z_in (nI_toInt (by omega)) (by omega) (by omega)) rfl dX9_copyLand_113 (fun H locs hP hS => ?_)
      refine lv_aload_n hx hb dX9_copyLand_114 rfl (lv_at hl 1 rfl) ?_
      refine va_get (D := (dC, dI)) (ci := 9) (v := .ref (am 9)) (C := RX9) (T := TX9) (N := 60) hx hb hts hi9 hown hK hP 0 rfl rfl 19 (by decide) hk13 (fun _ h9 => h9) rfl dX9_copyLand_115 ?_
      refine lv_bipush (v := 6) hx hb dX9_copyLand_118 (by decide) ?_
      refine lv_iload_n hx hb dX9_copyLand_120 rfl (lv_at hl 3 rfl) ?_
      refine lv_imul hx hb dX9_copyLand_121 ?_
      refine z_topi (y := 12) (by decide +kernel) ?_
      refine lv_iload_n hx hb dX9_copyLand_122 rfl (lv_at hl 0 rfl) ?_
      refine lv_iadd hx hb dX9_copyLand_123 ?_
      refine z_topi (y := nI (12 + i)) (nI_add 12 i) ?_
      refine lv_aload_n hx hb dX9_copyLand_124 rfl (lv_at hl 1 rfl) ?_
      refine va_get (D := (dC, dI)) (ci := 9) (v := .ref (am 9)) (C := RX9) (T := TX9) (N := 60) hx hb hts hi9 hown hK hP 0 rfl rfl 19 (by decide) hk13 (fun _ h9 => h9) rfl dX9_copyLand_125 ?_
      refine lv_bipush (v := 6) hx hb dX9_copyLand_128 (by decide) ?_
      refine lv_iload_n hx hb dX9_copyLand_130 rfl (lv_at hl 2 rfl) ?_
      refine lv_imul hx hb dX9_copyLand_131 ?_
      refine z_topi (y := 0) (by decide +kernel) ?_
      refine lv_iload_n hx hb dX9_copyLand_132 rfl (lv_at hl 0 rfl) ?_
      refine lv_iadd hx hb dX9_copyLand_133 ?_
      refine z_topi (y := nI (0 + i)) (nI_add 0 i) ?_
      refine va_iald hx hb hK hP 4 1 rfl rfl (z_in (nI_toInt (by omega)) (by omega) (by omega)) dX9_copyLand_134 ?_
      refine z_topi (y := 0) rfl ?_
      refine z_iast0 hx hb hK hP hD hS 4 1 rfl rfl (z_in (nI_toInt (by omega)) (by omega) (by omega)) rfl dX9_copyLand_135 (fun H locs hP hS => ?_)
      refine lv_iinc (v := nI (i + 1)) (lv' := [(3, .int (nI (i + 1))), (0, .ref (am 0)), (1, .int 0), (2, .int 2)]) hx hb dX9_copyLand_136 hl (k := 0) rfl (nI_1 i) (by decide) rfl (fun ls hl => ?_)
      refine lv_goto (tgt := 86) hx hb dX9_copyLand_139 (by decide) ?_
      exact ih (i + 1) (by omega) (by omega) _ _ hP hS ls (lv_sub hl [0, 1, 2, 3] rfl)
  exact hlp1 6 0 rfl (by omega) _ _ hP hS ls (lv_sub hl [0, 1, 2, 3] rfl)
set_option maxHeartbeats 4000000 in
set_option maxRecDepth 100000 in
theorem c_X9_copySheets_254 (l : Launch) (dC : Nat → ClassId) (dI : Nat → Nat → Nat) (cB cI cJ cZ cP cQ : ClassId) (am : Nat → Nat) (sz : Nat) : Met l yX9_copySheets wsX9_copySheets ({ frames := 0, cells := 0, slots := 0, locals := 0 } : Room) (zPc [.ref (am 0), .int 0, .int 2] (dC, dI) (zT cB cI cJ cZ cP cQ) [(am 0, .inr (9, mf0 am)), (am 25, .inl (cI, 5, .inl (fun _ => 0)))] sz [] []) (va_Qv (fun _ => True) (zB (dC, dI) (zT cB cI cJ cZ cP cQ) (fun _ : Unit => [(am 0, .inr (9, mf0 am)), (am 25, .inl (cI, 5, .inl (fun _ => 0)))]) [(am 0, .inr (9, mf0 am)), (am 25, .inl (cI, 5, .inl (fun _ => 0)))] sz) (va_A [(am 0, .inr (9, mf0 am)), (am 25, .inl (cI, 5, .inl (fun _ => 0)))] sz)) 0 0 (va_A [(am 0, .inr (9, mf0 am)), (am 25, .inl (cI, 5, .inl (fun _ => 0)))] sz) := by
  refine z_enter (cc := cX9_copySheets) (maxL := 4) (ret := none) (by decide) rfl (Nat.le_of_ble_eq_true rfl) ?_
  intro p e s m below meth c A ls Q H locs hx hb hr hml hown hts hlocks hin hK hP hD hA hX hS hAe hQ hl
  have hown : s.vm.findClass RX9 = some m.cls := hown
  have hi9 : ∀ w ∈ wsX90, w ∈ wsX9_copySheets := fun w h => List.mem_cons_of_mem _ (List.mem_append_right _ h)
  have hk0 := hts (.fieldLink RX9 89 "MonthPushModel" "sheets" "[I") (by decide +kernel)
  have hl : lv_has ls 4 [(0, .ref (am 0)), (1, .int 0), (2, .int 2)] := hl
  refine lv_aload_n hx hb dX9_copySheets_0 rfl (lv_at hl 0 rfl) ?_
  refine va_get (D := (dC, dI)) (ci := 9) (v := .ref (am 25)) (C := RX9) (T := TX9) (N := 60) hx hb hts hi9 hown hK hP 0 rfl rfl 35 (by decide) hk0 (fun _ h9 => h9) rfl dX9_copySheets_1 ?_
  refine lv_iload_n hx hb dX9_copySheets_4 rfl (lv_at hl 2 rfl) ?_
  refine lv_aload_n hx hb dX9_copySheets_5 rfl (lv_at hl 0 rfl) ?_
  refine va_get (D := (dC, dI)) (ci := 9) (v := .ref (am 25)) (C := RX9) (T := TX9) (N := 60) hx hb hts hi9 hown hK hP 0 rfl rfl 35 (by decide) hk0 (fun _ h9 => h9) rfl dX9_copySheets_6 ?_
  refine lv_iload_n hx hb dX9_copySheets_9 rfl (lv_at hl 1 rfl) ?_
  refine va_iald hx hb hK hP 1 1 rfl rfl (z_in (a := 0) (by decide) (by decide) (by decide)) dX9_copySheets_10 ?_
  refine z_topi (y := 0) rfl ?_
  refine z_iast0 hx hb hK hP hD hS 1 1 rfl rfl (z_in (a := 2) (by decide) (by decide) (by decide)) rfl dX9_copySheets_11 (fun H locs hP hS => ?_)
  refine lv_iconst (v := 0) hx hb dX9_copySheets_12 (by decide) ?_
  refine lv_istore_n (lv' := [(3, .int 0), (0, .ref (am 0)), (1, .int 0), (2, .int 2)]) hx hb dX9_copySheets_13 rfl hl (by decide) rfl (fun ls hl => ?_)
  refine lv_iload_n hx hb dX9_copySheets_14 rfl (lv_at hl 0 rfl) ?_
  refine lv_aload_n hx hb dX9_copySheets_15 rfl (lv_at hl 1 rfl) ?_
  refine va_get (D := (dC, dI)) (ci := 9) (v := .ref (am 25)) (C := RX9) (T := TX9) (N := 60) hx hb hts hi9 hown hK hP 0 rfl rfl 35 (by decide) hk0 (fun _ h9 => h9) rfl dX9_copySheets_16 ?_
  refine lv_iload_n hx hb dX9_copySheets_19 rfl (lv_at hl 2 rfl) ?_
  refine va_iald hx hb hK hP 1 1 rfl rfl (z_in (a := 0) (by decide) (by decide) (by decide)) dX9_copySheets_20 ?_
  refine z_topi (y := 0) rfl ?_
  refine lv_icmp_ge (tgt := 48) hx hb dX9_copySheets_21 (by decide) (fun _ => ?_) (fun c => absurd (by decide) c)
  exact z_vret () hx hb hr hlocks hK hP hD hS hAe hQ rfl trivial dX9_copySheets_48
set_option maxHeartbeats 4000000 in
set_option maxRecDepth 100000 in
theorem c_X9_copyLand_255 (l : Launch) (dC : Nat → ClassId) (dI : Nat → Nat → Nat) (cB cI cJ cZ cP cQ : ClassId) (am : Nat → Nat) (sz : Nat) : Met l yX9_copyLand wsX9_copyLand ({ frames := 0, cells := 0, slots := 0, locals := 0 } : Room) (zPc [.ref (am 0), .int 0, .int 3] (dC, dI) (zT cB cI cJ cZ cP cQ) [(am 0, .inr (9, mf0 am)), (am 6, .inl (cI, 5, .inl (fun _ => 0))), (am 7, .inl (cI, 5, .inl (fun _ => 0))), (am 8, .inl (cI, 30, .inl (fun _ => 0))), (am 9, .inl (cI, 30, .inl (fun _ => 0))), (am 10, .inl (cI, 5, .inl (fun _ => 0))), (am 11, .inl (cI, 40, .inl (fun _ => 0))), (am 12, .inl (cI, 40, .inl (fun _ => 0))), (am 13, .inl (cI, 40, .inl (fun _ => 0))), (am 14, .inl (cI, 40, .inl (fun _ => 0))), (am 16, .inl (cI, 60, .inl (fun _ => 0))), (am 17, .inl (cZ, 5, .inl (fun _ => 0))), (am 19, .inl (cI, 5, .inl (fun _ => 0))), (am 20, .inl (cI, 5, .inl (fun _ => 0))), (am 21, .inl (cI, 5, .inl (fun _ => 0)))] sz [] []) (va_Qv (fun _ => True) (zB (dC, dI) (zT cB cI cJ cZ cP cQ) (fun _ : Unit => [(am 0, .inr (9, mf0 am)), (am 6, .inl (cI, 5, .inl (fun _ => 0))), (am 7, .inl (cI, 5, .inl (fun _ => 0))), (am 8, .inl (cI, 30, .inl (fun _ => 0))), (am 9, .inl (cI, 30, .inl (fun _ => 0))), (am 10, .inl (cI, 5, .inl (fun _ => 0))), (am 11, .inl (cI, 40, .inl (fun _ => 0))), (am 12, .inl (cI, 40, .inl (fun _ => 0))), (am 13, .inl (cI, 40, .inl (fun _ => 0))), (am 14, .inl (cI, 40, .inl (fun _ => 0))), (am 16, .inl (cI, 60, .inl (fun _ => 0))), (am 17, .inl (cZ, 5, .inl (fun _ => 0))), (am 19, .inl (cI, 5, .inl (fun _ => 0))), (am 20, .inl (cI, 5, .inl (fun _ => 0))), (am 21, .inl (cI, 5, .inl (fun _ => 0)))]) [(am 0, .inr (9, mf0 am)), (am 6, .inl (cI, 5, .inl (fun _ => 0))), (am 7, .inl (cI, 5, .inl (fun _ => 0))), (am 8, .inl (cI, 30, .inl (fun _ => 0))), (am 9, .inl (cI, 30, .inl (fun _ => 0))), (am 10, .inl (cI, 5, .inl (fun _ => 0))), (am 11, .inl (cI, 40, .inl (fun _ => 0))), (am 12, .inl (cI, 40, .inl (fun _ => 0))), (am 13, .inl (cI, 40, .inl (fun _ => 0))), (am 14, .inl (cI, 40, .inl (fun _ => 0))), (am 16, .inl (cI, 60, .inl (fun _ => 0))), (am 17, .inl (cZ, 5, .inl (fun _ => 0))), (am 19, .inl (cI, 5, .inl (fun _ => 0))), (am 20, .inl (cI, 5, .inl (fun _ => 0))), (am 21, .inl (cI, 5, .inl (fun _ => 0)))] sz) (va_A [(am 0, .inr (9, mf0 am)), (am 6, .inl (cI, 5, .inl (fun _ => 0))), (am 7, .inl (cI, 5, .inl (fun _ => 0))), (am 8, .inl (cI, 30, .inl (fun _ => 0))), (am 9, .inl (cI, 30, .inl (fun _ => 0))), (am 10, .inl (cI, 5, .inl (fun _ => 0))), (am 11, .inl (cI, 40, .inl (fun _ => 0))), (am 12, .inl (cI, 40, .inl (fun _ => 0))), (am 13, .inl (cI, 40, .inl (fun _ => 0))), (am 14, .inl (cI, 40, .inl (fun _ => 0))), (am 16, .inl (cI, 60, .inl (fun _ => 0))), (am 17, .inl (cZ, 5, .inl (fun _ => 0))), (am 19, .inl (cI, 5, .inl (fun _ => 0))), (am 20, .inl (cI, 5, .inl (fun _ => 0))), (am 21, .inl (cI, 5, .inl (fun _ => 0)))] sz)) 0 0 (va_A [(am 0, .inr (9, mf0 am)), (am 6, .inl (cI, 5, .inl (fun _ => 0))), (am 7, .inl (cI, 5, .inl (fun _ => 0))), (am 8, .inl (cI, 30, .inl (fun _ => 0))), (am 9, .inl (cI, 30, .inl (fun _ => 0))), (am 10, .inl (cI, 5, .inl (fun _ => 0))), (am 11, .inl (cI, 40, .inl (fun _ => 0))), (am 12, .inl (cI, 40, .inl (fun _ => 0))), (am 13, .inl (cI, 40, .inl (fun _ => 0))), (am 14, .inl (cI, 40, .inl (fun _ => 0))), (am 16, .inl (cI, 60, .inl (fun _ => 0))), (am 17, .inl (cZ, 5, .inl (fun _ => 0))), (am 19, .inl (cI, 5, .inl (fun _ => 0))), (am 20, .inl (cI, 5, .inl (fun _ => 0))), (am 21, .inl (cI, 5, .inl (fun _ => 0)))] sz) := by
  refine z_enter (cc := cX9_copyLand) (maxL := 4) (ret := none) (by decide) rfl (Nat.le_of_ble_eq_true rfl) ?_
  intro p e s m below meth c A ls Q H locs hx hb hr hml hown hts hlocks hin hK hP hD hA hX hS hAe hQ hl
  have hown : s.vm.findClass RX9 = some m.cls := hown
  have hi9 : ∀ w ∈ wsX90, w ∈ wsX9_copyLand := fun w h => List.mem_cons_of_mem _ (List.mem_append_right _ h)
  have hk0 := hts (.fieldLink RX9 31 "MonthPushModel" "lines" "[I") (by decide +kernel)
  have hk1 := hts (.fieldLink RX9 34 "MonthPushModel" "laws" "[I") (by decide +kernel)
  have hk2 := hts (.fieldLink RX9 43 "MonthPushModel" "sorts" "[I") (by decide +kernel)
  have hk3 := hts (.fieldLink RX9 74 "MonthPushModel" "parts" "[I") (by decide +kernel)
  have hk4 := hts (.fieldLink RX9 77 "MonthPushModel" "coded" "[I") (by decide +kernel)
  have hk5 := hts (.fieldLink RX9 71 "MonthPushModel" "noise" "[I") (by decide +kernel)
  have hk6 := hts (.fieldLink RX9 65 "MonthPushModel" "hasWage" "[Z") (by decide +kernel)
  have hk7 := hts (.fieldLink RX9 62 "MonthPushModel" "leakBy" "[I") (by decide +kernel)
  have hk8 := hts (.fieldLink RX9 46 "MonthPushModel" "share" "[I") (by decide +kernel)
  have hk9 := hts (.fieldLink RX9 49 "MonthPushModel" "giftOf" "[I") (by decide +kernel)
  have hk10 := hts (.fieldLink RX9 52 "MonthPushModel" "wishOf" "[I") (by decide +kernel)
  have hk11 := hts (.fieldLink RX9 55 "MonthPushModel" "spread" "[I") (by decide +kernel)
  have hk12 := hts (.fieldLink RX9 37 "MonthPushModel" "enter" "[I") (by decide +kernel)
  have hk13 := hts (.fieldLink RX9 40 "MonthPushModel" "leave" "[I") (by decide +kernel)
  have hl : lv_has ls 4 [(0, .ref (am 0)), (1, .int 0), (2, .int 3)] := hl
  refine lv_aload_n hx hb dX9_copyLand_0 rfl (lv_at hl 0 rfl) ?_
  refine va_get (D := (dC, dI)) (ci := 9) (v := .ref (am 6)) (C := RX9) (T := TX9) (N := 60) hx hb hts hi9 hown hK hP 0 rfl rfl 16 (by decide) hk0 (fun _ h9 => h9) rfl dX9_copyLand_1 ?_
  refine lv_iload_n hx hb dX9_copyLand_4 rfl (lv_at hl 2 rfl) ?_
  refine lv_aload_n hx hb dX9_copyLand_5 rfl (lv_at hl 0 rfl) ?_
  refine va_get (D := (dC, dI)) (ci := 9) (v := .ref (am 6)) (C := RX9) (T := TX9) (N := 60) hx hb hts hi9 hown hK hP 0 rfl rfl 16 (by decide) hk0 (fun _ h9 => h9) rfl dX9_copyLand_6 ?_
  refine lv_iload_n hx hb dX9_copyLand_9 rfl (lv_at hl 1 rfl) ?_
  refine va_iald hx hb hK hP 1 1 rfl rfl (z_in (a := 0) (by decide) (by decide) (by decide)) dX9_copyLand_10 ?_
  refine z_topi (y := 0) rfl ?_
  refine z_iast0 hx hb hK hP hD hS 1 1 rfl rfl (z_in (a := 3) (by decide) (by decide) (by decide)) rfl dX9_copyLand_11 (fun H locs hP hS => ?_)
  refine lv_aload_n hx hb dX9_copyLand_12 rfl (lv_at hl 0 rfl) ?_
  refine va_get (D := (dC, dI)) (ci := 9) (v := .ref (am 7)) (C := RX9) (T := TX9) (N := 60) hx hb hts hi9 hown hK hP 0 rfl rfl 17 (by decide) hk1 (fun _ h9 => h9) rfl dX9_copyLand_13 ?_
  refine lv_iload_n hx hb dX9_copyLand_16 rfl (lv_at hl 2 rfl) ?_
  refine lv_aload_n hx hb dX9_copyLand_17 rfl (lv_at hl 0 rfl) ?_
  refine va_get (D := (dC, dI)) (ci := 9) (v := .ref (am 7)) (C := RX9) (T := TX9) (N := 60) hx hb hts hi9 hown hK hP 0 rfl rfl 17 (by decide) hk1 (fun _ h9 => h9) rfl dX9_copyLand_18 ?_
  refine lv_iload_n hx hb dX9_copyLand_21 rfl (lv_at hl 1 rfl) ?_
  refine va_iald hx hb hK hP 2 1 rfl rfl (z_in (a := 0) (by decide) (by decide) (by decide)) dX9_copyLand_22 ?_
  refine z_topi (y := 0) rfl ?_
  refine z_iast0 hx hb hK hP hD hS 2 1 rfl rfl (z_in (a := 3) (by decide) (by decide) (by decide)) rfl dX9_copyLand_23 (fun H locs hP hS => ?_)
  refine lv_aload_n hx hb dX9_copyLand_24 rfl (lv_at hl 0 rfl) ?_
  refine va_get (D := (dC, dI)) (ci := 9) (v := .ref (am 10)) (C := RX9) (T := TX9) (N := 60) hx hb hts hi9 hown hK hP 0 rfl rfl 20 (by decide) hk2 (fun _ h9 => h9) rfl dX9_copyLand_25 ?_
  refine lv_iload_n hx hb dX9_copyLand_28 rfl (lv_at hl 2 rfl) ?_
  refine lv_aload_n hx hb dX9_copyLand_29 rfl (lv_at hl 0 rfl) ?_
  refine va_get (D := (dC, dI)) (ci := 9) (v := .ref (am 10)) (C := RX9) (T := TX9) (N := 60) hx hb hts hi9 hown hK hP 0 rfl rfl 20 (by decide) hk2 (fun _ h9 => h9) rfl dX9_copyLand_30 ?_
  refine lv_iload_n hx hb dX9_copyLand_33 rfl (lv_at hl 1 rfl) ?_
  refine va_iald hx hb hK hP 5 1 rfl rfl (z_in (a := 0) (by decide) (by decide) (by decide)) dX9_copyLand_34 ?_
  refine z_topi (y := 0) rfl ?_
  refine z_iast0 hx hb hK hP hD hS 5 1 rfl rfl (z_in (a := 3) (by decide) (by decide) (by decide)) rfl dX9_copyLand_35 (fun H locs hP hS => ?_)
  refine lv_aload_n hx hb dX9_copyLand_36 rfl (lv_at hl 0 rfl) ?_
  refine va_get (D := (dC, dI)) (ci := 9) (v := .ref (am 20)) (C := RX9) (T := TX9) (N := 60) hx hb hts hi9 hown hK hP 0 rfl rfl 30 (by decide) hk3 (fun _ h9 => h9) rfl dX9_copyLand_37 ?_
  refine lv_iload_n hx hb dX9_copyLand_40 rfl (lv_at hl 2 rfl) ?_
  refine lv_aload_n hx hb dX9_copyLand_41 rfl (lv_at hl 0 rfl) ?_
  refine va_get (D := (dC, dI)) (ci := 9) (v := .ref (am 20)) (C := RX9) (T := TX9) (N := 60) hx hb hts hi9 hown hK hP 0 rfl rfl 30 (by decide) hk3 (fun _ h9 => h9) rfl dX9_copyLand_42 ?_
  refine lv_iload_n hx hb dX9_copyLand_45 rfl (lv_at hl 1 rfl) ?_
  refine va_iald hx hb hK hP 13 1 rfl rfl (z_in (a := 0) (by decide) (by decide) (by decide)) dX9_copyLand_46 ?_
  refine z_topi (y := 0) rfl ?_
  refine z_iast0 hx hb hK hP hD hS 13 1 rfl rfl (z_in (a := 3) (by decide) (by decide) (by decide)) rfl dX9_copyLand_47 (fun H locs hP hS => ?_)
  refine lv_aload_n hx hb dX9_copyLand_48 rfl (lv_at hl 0 rfl) ?_
  refine va_get (D := (dC, dI)) (ci := 9) (v := .ref (am 21)) (C := RX9) (T := TX9) (N := 60) hx hb hts hi9 hown hK hP 0 rfl rfl 31 (by decide) hk4 (fun _ h9 => h9) rfl dX9_copyLand_49 ?_
  refine lv_iload_n hx hb dX9_copyLand_52 rfl (lv_at hl 2 rfl) ?_
  refine lv_aload_n hx hb dX9_copyLand_53 rfl (lv_at hl 0 rfl) ?_
  refine va_get (D := (dC, dI)) (ci := 9) (v := .ref (am 21)) (C := RX9) (T := TX9) (N := 60) hx hb hts hi9 hown hK hP 0 rfl rfl 31 (by decide) hk4 (fun _ h9 => h9) rfl dX9_copyLand_54 ?_
  refine lv_iload_n hx hb dX9_copyLand_57 rfl (lv_at hl 1 rfl) ?_
  refine va_iald hx hb hK hP 14 1 rfl rfl (z_in (a := 0) (by decide) (by decide) (by decide)) dX9_copyLand_58 ?_
  refine z_topi (y := 0) rfl ?_
  refine z_iast0 hx hb hK hP hD hS 14 1 rfl rfl (z_in (a := 3) (by decide) (by decide) (by decide)) rfl dX9_copyLand_59 (fun H locs hP hS => ?_)
  refine lv_aload_n hx hb dX9_copyLand_60 rfl (lv_at hl 0 rfl) ?_
  refine va_get (D := (dC, dI)) (ci := 9) (v := .ref (am 19)) (C := RX9) (T := TX9) (N := 60) hx hb hts hi9 hown hK hP 0 rfl rfl 29 (by decide) hk5 (fun _ h9 => h9) rfl dX9_copyLand_61 ?_
  refine lv_iload_n hx hb dX9_copyLand_64 rfl (lv_at hl 2 rfl) ?_
  refine lv_aload_n hx hb dX9_copyLand_65 rfl (lv_at hl 0 rfl) ?_
  refine va_get (D := (dC, dI)) (ci := 9) (v := .ref (am 19)) (C := RX9) (T := TX9) (N := 60) hx hb hts hi9 hown hK hP 0 rfl rfl 29 (by decide) hk5 (fun _ h9 => h9) rfl dX9_copyLand_66 ?_
  refine lv_iload_n hx hb dX9_copyLand_69 rfl (lv_at hl 1 rfl) ?_
  refine va_iald hx hb hK hP 12 1 rfl rfl (z_in (a := 0) (by decide) (by decide) (by decide)) dX9_copyLand_70 ?_
  refine z_topi (y := 0) rfl ?_
  refine z_iast0 hx hb hK hP hD hS 12 1 rfl rfl (z_in (a := 3) (by decide) (by decide) (by decide)) rfl dX9_copyLand_71 (fun H locs hP hS => ?_)
  refine lv_aload_n hx hb dX9_copyLand_72 rfl (lv_at hl 0 rfl) ?_
  refine va_get (D := (dC, dI)) (ci := 9) (v := .ref (am 17)) (C := RX9) (T := TX9) (N := 60) hx hb hts hi9 hown hK hP 0 rfl rfl 27 (by decide) hk6 (fun _ h9 => h9) rfl dX9_copyLand_73 ?_
  refine lv_iload_n hx hb dX9_copyLand_76 rfl (lv_at hl 2 rfl) ?_
  refine lv_aload_n hx hb dX9_copyLand_77 rfl (lv_at hl 0 rfl) ?_
  refine va_get (D := (dC, dI)) (ci := 9) (v := .ref (am 17)) (C := RX9) (T := TX9) (N := 60) hx hb hts hi9 hown hK hP 0 rfl rfl 27 (by decide) hk6 (fun _ h9 => h9) rfl dX9_copyLand_78 ?_
  refine lv_iload_n hx hb dX9_copyLand_81 rfl (lv_at hl 1 rfl) ?_
  refine va_zald hx hb hK hP 11 3 rfl rfl (z_in (a := 0) (by decide) (by decide) (by decide)) dX9_copyLand_82 ?_
  refine z_topi (y := 0) rfl ?_
  refine z_zast0 hx hb hK hP hD hS 11 3 rfl rfl (z_in (a := 3) (by decide) (by decide) (by decide)) (by decide) dX9_copyLand_83 (fun H locs hP hS => ?_)
  refine lv_iconst (v := 0) hx hb dX9_copyLand_84 (by decide) ?_
  refine lv_istore_n (lv' := [(3, .int 0), (0, .ref (am 0)), (1, .int 0), (2, .int 3)]) hx hb dX9_copyLand_85 rfl hl (by decide) rfl (fun ls hl => ?_)
  have hlp1 : ∀ (n i : Nat), i + n = 6 → 0 ≤ i → ∀ (H : Heap) (locs : List Loc), va_P (dC, dI) vwCl [(am 0, .inr (9, mf0 am)), (am 6, .inl (cI, 5, .inl (fun _ => 0))), (am 7, .inl (cI, 5, .inl (fun _ => 0))), (am 8, .inl (cI, 30, .inl (fun _ => 0))), (am 9, .inl (cI, 30, .inl (fun _ => 0))), (am 10, .inl (cI, 5, .inl (fun _ => 0))), (am 11, .inl (cI, 40, .inl (fun _ => 0))), (am 12, .inl (cI, 40, .inl (fun _ => 0))), (am 13, .inl (cI, 40, .inl (fun _ => 0))), (am 14, .inl (cI, 40, .inl (fun _ => 0))), (am 16, .inl (cI, 60, .inl (fun _ => 0))), (am 17, .inl (cZ, 5, .inl (fun _ => 0))), (am 19, .inl (cI, 5, .inl (fun _ => 0))), (am 20, .inl (cI, 5, .inl (fun _ => 0))), (am 21, .inl (cI, 5, .inl (fun _ => 0)))] H → va_S A s.heap H locs → ∀ (ls : Array Slot), lv_has ls 4 [(3, .int (nI i)), (0, .ref (am 0)), (1, .int 0), (2, .int 3)] → W p l e ({ frames := 0, cells := 0, slots := 0, locals := 0 } : Room) s m ([.ref (am 0), .int 0, .int 3] : List Value).toArray below meth c H locs 0 0 Q (F0 m 86 ls []) := by
    intro n
    induction n with
    | zero =>
      intro i hi hi0 H locs hP hS ls hl
      obtain rfl : i = 6 := by omega
      have hl : lv_has ls 4 [(3, .int 6), (0, .ref (am 0)), (1, .int 0), (2, .int 3)] := hl
      refine lv_iload_n hx hb dX9_copyLand_86 rfl (lv_at hl 0 rfl) ?_
      refine lv_bipush (v := 6) hx hb dX9_copyLand_87 (by decide) ?_
      refine lv_icmp_ge (tgt := 142) hx hb dX9_copyLand_89 (by decide) (fun _ => ?_) (fun c => absurd (by decide) c)
      refine lv_iconst (v := 0) hx hb dX9_copyLand_142 (by decide) ?_
      refine lv_istore_n (lv' := [(3, .int 0), (0, .ref (am 0)), (1, .int 0), (2, .int 3)]) hx hb dX9_copyLand_143 rfl hl (by decide) rfl (fun ls hl => ?_)
      have hlp2 : ∀ (n i : Nat), i + n = 8 → 0 ≤ i → ∀ (H : Heap) (locs : List Loc), va_P (dC, dI) vwCl [(am 0, .inr (9, mf0 am)), (am 6, .inl (cI, 5, .inl (fun _ => 0))), (am 7, .inl (cI, 5, .inl (fun _ => 0))), (am 8, .inl (cI, 30, .inl (fun _ => 0))), (am 9, .inl (cI, 30, .inl (fun _ => 0))), (am 10, .inl (cI, 5, .inl (fun _ => 0))), (am 11, .inl (cI, 40, .inl (fun _ => 0))), (am 12, .inl (cI, 40, .inl (fun _ => 0))), (am 13, .inl (cI, 40, .inl (fun _ => 0))), (am 14, .inl (cI, 40, .inl (fun _ => 0))), (am 16, .inl (cI, 60, .inl (fun _ => 0))), (am 17, .inl (cZ, 5, .inl (fun _ => 0))), (am 19, .inl (cI, 5, .inl (fun _ => 0))), (am 20, .inl (cI, 5, .inl (fun _ => 0))), (am 21, .inl (cI, 5, .inl (fun _ => 0)))] H → va_S A s.heap H locs → ∀ (ls : Array Slot), lv_has ls 4 [(3, .int (nI i)), (0, .ref (am 0)), (1, .int 0), (2, .int 3)] → W p l e ({ frames := 0, cells := 0, slots := 0, locals := 0 } : Room) s m ([.ref (am 0), .int 0, .int 3] : List Value).toArray below meth c H locs 0 0 Q (F0 m 144 ls []) := by
        intro n
        induction n with
        | zero =>
          intro i hi hi0 H locs hP hS ls hl
          obtain rfl : i = 8 := by omega
          have hl : lv_has ls 4 [(3, .int 8), (0, .ref (am 0)), (1, .int 0), (2, .int 3)] := hl
          refine lv_iload_n hx hb dX9_copyLand_144 rfl (lv_at hl 0 rfl) ?_
          refine lv_bipush (v := 8) hx hb dX9_copyLand_145 (by decide) ?_
          refine lv_icmp_ge (tgt := 244) hx hb dX9_copyLand_147 (by decide) (fun _ => ?_) (fun c => absurd (by decide) c)
          refine lv_iconst (v := 0) hx hb dX9_copyLand_244 (by decide) ?_
          refine lv_istore_n (lv' := [(3, .int 0), (0, .ref (am 0)), (1, .int 0), (2, .int 3)]) hx hb dX9_copyLand_245 rfl hl (by decide) rfl (fun ls hl => ?_)
          have hlp3 : ∀ (n i : Nat), i + n = 12 → 0 ≤ i → ∀ (H : Heap) (locs : List Loc), va_P (dC, dI) vwCl [(am 0, .inr (9, mf0 am)), (am 6, .inl (cI, 5, .inl (fun _ => 0))), (am 7, .inl (cI, 5, .inl (fun _ => 0))), (am 8, .inl (cI, 30, .inl (fun _ => 0))), (am 9, .inl (cI, 30, .inl (fun _ => 0))), (am 10, .inl (cI, 5, .inl (fun _ => 0))), (am 11, .inl (cI, 40, .inl (fun _ => 0))), (am 12, .inl (cI, 40, .inl (fun _ => 0))), (am 13, .inl (cI, 40, .inl (fun _ => 0))), (am 14, .inl (cI, 40, .inl (fun _ => 0))), (am 16, .inl (cI, 60, .inl (fun _ => 0))), (am 17, .inl (cZ, 5, .inl (fun _ => 0))), (am 19, .inl (cI, 5, .inl (fun _ => 0))), (am 20, .inl (cI, 5, .inl (fun _ => 0))), (am 21, .inl (cI, 5, .inl (fun _ => 0)))] H → va_S A s.heap H locs → ∀ (ls : Array Slot), lv_has ls 4 [(3, .int (nI i)), (0, .ref (am 0)), (1, .int 0), (2, .int 3)] → W p l e ({ frames := 0, cells := 0, slots := 0, locals := 0 } : Room) s m ([.ref (am 0), .int 0, .int 3] : List Value).toArray below meth c H locs 0 0 Q (F0 m 246 ls []) := by
            intro n
            induction n with
            | zero =>
              intro i hi hi0 H locs hP hS ls hl
              obtain rfl : i = 12 := by omega
              have hl : lv_has ls 4 [(3, .int 12), (0, .ref (am 0)), (1, .int 0), (2, .int 3)] := hl
              refine lv_iload_n hx hb dX9_copyLand_246 rfl (lv_at hl 0 rfl) ?_
              refine lv_bipush (v := 12) hx hb dX9_copyLand_247 (by decide) ?_
              refine lv_icmp_ge (tgt := 280) hx hb dX9_copyLand_249 (by decide) (fun _ => ?_) (fun c => absurd (by decide) c)
              refine lv_iconst (v := 0) hx hb dX9_copyLand_280 (by decide) ?_
              refine lv_istore_n (lv' := [(3, .int 0), (0, .ref (am 0)), (1, .int 0), (2, .int 3)]) hx hb dX9_copyLand_281 rfl hl (by decide) rfl (fun ls hl => ?_)
              refine lv_iload_n hx hb dX9_copyLand_282 rfl (lv_at hl 0 rfl) ?_
              refine lv_aload_n hx hb dX9_copyLand_283 rfl (lv_at hl 1 rfl) ?_
              refine va_get (D := (dC, dI)) (ci := 9) (v := .ref (am 21)) (C := RX9) (T := TX9) (N := 60) hx hb hts hi9 hown hK hP 0 rfl rfl 31 (by decide) hk4 (fun _ h9 => h9) rfl dX9_copyLand_284 ?_
              refine lv_iload_n hx hb dX9_copyLand_287 rfl (lv_at hl 2 rfl) ?_
              refine va_iald hx hb hK hP 14 1 rfl rfl (z_in (a := 0) (by decide) (by decide) (by decide)) dX9_copyLand_288 ?_
              refine z_topi (y := 0) rfl ?_
              refine lv_icmp_ge (tgt := 322) hx hb dX9_copyLand_289 (by decide) (fun _ => ?_) (fun c => absurd (by decide) c)
              exact z_vret () hx hb hr hlocks hK hP hD hS hAe hQ rfl trivial dX9_copyLand_322
            | succ n ih =>
              intro i hi hi0 H locs hP hS ls hl
              have hlt : i < 12 := by omega
              refine lv_iload_n hx hb dX9_copyLand_246 rfl (lv_at hl 0 rfl) ?_
              refine lv_bipush (v := 12) hx hb dX9_copyLand_247 (by decide) ?_
              refine lv_icmp_ge (tgt := 280) hx hb dX9_copyLand_249 (by decide) (fun c => absurd (show 12 ≤ (i : Int) from z_le (by decide) (nI_toInt (by omega)) c) (by omega)) (fun _ => ?_)
              refine lv_aload_n hx hb dX9_copyLand_252 rfl (lv_at hl 1 rfl) ?_
              refine va_get (D := (dC, dI)) (ci := 9) (v := .ref (am 16)) (C := RX9) (T := TX9) (N := 60) hx hb hts hi9 hown hK hP 0 rfl rfl 26 (by decide) hk7 (fun _ h9 => h9) rfl dX9_copyLand_253 ?_
              refine lv_bipush (v := 12) hx hb dX9_copyLand_256 (by decide) ?_
              refine lv_iload_n hx hb dX9_copyLand_258 rfl (lv_at hl 3 rfl) ?_
              refine lv_imul hx hb dX9_copyLand_259 ?_
              refine z_topi (y := 36) (by decide +kernel) ?_
              refine lv_iload_n hx hb dX9_copyLand_260 rfl (lv_at hl 0 rfl) ?_
              refine lv_iadd hx hb dX9_copyLand_261 ?_
              refine z_topi (y := nI (36 + i)) (nI_add 36 i) ?_
              refine lv_aload_n hx hb dX9_copyLand_262 rfl (lv_at hl 1 rfl) ?_
              refine va_get (D := (dC, dI)) (ci := 9) (v := .ref (am 16)) (C := RX9) (T := TX9) (N := 60) hx hb hts hi9 hown hK hP 0 rfl rfl 26 (by decide) hk7 (fun _ h9 => h9) rfl dX9_copyLand_263 ?_
              refine lv_bipush (v := 12) hx hb dX9_copyLand_266 (by decide) ?_
              refine lv_iload_n hx hb dX9_copyLand_268 rfl (lv_at hl 2 rfl) ?_
              refine lv_imul hx hb dX9_copyLand_269 ?_
              refine z_topi (y := 0) (by decide +kernel) ?_
              refine lv_iload_n hx hb dX9_copyLand_270 rfl (lv_at hl 0 rfl) ?_
              refine lv_iadd hx hb dX9_copyLand_271 ?_
              refine z_topi (y := nI (0 + i)) (nI_add 0 i) ?_
              refine va_iald hx hb hK hP 10 1 rfl rfl (z_in (nI_toInt (by omega)) (by omega) (by omega)) dX9_copyLand_272 ?_
              refine z_topi (y := 0) rfl ?_
              refine z_iast0 hx hb hK hP hD hS 10 1 rfl rfl (z_in (nI_toInt (by omega)) (by omega) (by omega)) rfl dX9_copyLand_273 (fun H locs hP hS => ?_)
              refine lv_iinc (v := nI (i + 1)) (lv' := [(3, .int (nI (i + 1))), (0, .ref (am 0)), (1, .int 0), (2, .int 3)]) hx hb dX9_copyLand_274 hl (k := 0) rfl (nI_1 i) (by decide) rfl (fun ls hl => ?_)
              refine lv_goto (tgt := 246) hx hb dX9_copyLand_277 (by decide) ?_
              exact ih (i + 1) (by omega) (by omega) _ _ hP hS ls (lv_sub hl [0, 1, 2, 3] rfl)
          exact hlp3 12 0 rfl (by omega) _ _ hP hS ls (lv_sub hl [0, 1, 2, 3] rfl)
        | succ n ih =>
          intro i hi hi0 H locs hP hS ls hl
          have hlt : i < 8 := by omega
          refine lv_iload_n hx hb dX9_copyLand_144 rfl (lv_at hl 0 rfl) ?_
          refine lv_bipush (v := 8) hx hb dX9_copyLand_145 (by decide) ?_
          refine lv_icmp_ge (tgt := 244) hx hb dX9_copyLand_147 (by decide) (fun c => absurd (show 8 ≤ (i : Int) from z_le (by decide) (nI_toInt (by omega)) c) (by omega)) (fun _ => ?_)
          refine lv_aload_n hx hb dX9_copyLand_150 rfl (lv_at hl 1 rfl) ?_
          refine va_get (D := (dC, dI)) (ci := 9) (v := .ref (am 11)) (C := RX9) (T := TX9) (N := 60) hx hb hts hi9 hown hK hP 0 rfl rfl 21 (by decide) hk8 (fun _ h9 => h9) rfl dX9_copyLand_151 ?_
          refine lv_bipush (v := 8) hx hb dX9_copyLand_154 (by decide) ?_
          refine lv_iload_n hx hb dX9_copyLand_156 rfl (lv_at hl 3 rfl) ?_
          refine lv_imul hx hb dX9_copyLand_157 ?_
          refine z_topi (y := 24) (by decide +kernel) ?_
          refine lv_iload_n hx hb dX9_copyLand_158 rfl (lv_at hl 0 rfl) ?_
          refine lv_iadd hx hb dX9_copyLand_159 ?_
          refine z_topi (y := nI (24 + i)) (nI_add 24 i) ?_
          refine lv_aload_n hx hb dX9_copyLand_160 rfl (lv_at hl 1 rfl) ?_
          refine va_get (D := (dC, dI)) (ci := 9) (v := .ref (am 11)) (C := RX9) (T := TX9) (N := 60) hx hb hts hi9 hown hK hP 0 rfl rfl 21 (by decide) hk8 (fun _ h9 => h9) rfl dX9_copyLand_161 ?_
          refine lv_bipush (v := 8) hx hb dX9_copyLand_164 (by decide) ?_
          refine lv_iload_n hx hb dX9_copyLand_166 rfl (lv_at hl 2 rfl) ?_
          refine lv_imul hx hb dX9_copyLand_167 ?_
          refine z_topi (y := 0) (by decide +kernel) ?_
          refine lv_iload_n hx hb dX9_copyLand_168 rfl (lv_at hl 0 rfl) ?_
          refine lv_iadd hx hb dX9_copyLand_169 ?_
          refine z_topi (y := nI (0 + i)) (nI_add 0 i) ?_
          refine va_iald hx hb hK hP 6 1 rfl rfl (z_in (nI_toInt (by omega)) (by omega) (by omega)) dX9_copyLand_170 ?_
          refine z_topi (y := 0) rfl ?_
          refine z_iast0 hx hb hK hP hD hS 6 1 rfl rfl (z_in (nI_toInt (by omega)) (by omega) (by omega)) rfl dX9_copyLand_171 (fun H locs hP hS => ?_)
          refine lv_aload_n hx hb dX9_copyLand_172 rfl (lv_at hl 1 rfl) ?_
          refine va_get (D := (dC, dI)) (ci := 9) (v := .ref (am 12)) (C := RX9) (T := TX9) (N := 60) hx hb hts hi9 hown hK hP 0 rfl rfl 22 (by decide) hk9 (fun _ h9 => h9) rfl dX9_copyLand_173 ?_
          refine lv_bipush (v := 8) hx hb dX9_copyLand_176 (by decide) ?_
          refine lv_iload_n hx hb dX9_copyLand_178 rfl (lv_at hl 3 rfl) ?_
          refine lv_imul hx hb dX9_copyLand_179 ?_
          refine z_topi (y := 24) (by decide +kernel) ?_
          refine lv_iload_n hx hb dX9_copyLand_180 rfl (lv_at hl 0 rfl) ?_
          refine lv_iadd hx hb dX9_copyLand_181 ?_
          refine z_topi (y := nI (24 + i)) (nI_add 24 i) ?_
          refine lv_aload_n hx hb dX9_copyLand_182 rfl (lv_at hl 1 rfl) ?_
          refine va_get (D := (dC, dI)) (ci := 9) (v := .ref (am 12)) (C := RX9) (T := TX9) (N := 60) hx hb hts hi9 hown hK hP 0 rfl rfl 22 (by decide) hk9 (fun _ h9 => h9) rfl dX9_copyLand_183 ?_
          refine lv_bipush (v := 8) hx hb dX9_copyLand_186 (by decide) ?_
          refine lv_iload_n hx hb dX9_copyLand_188 rfl (lv_at hl 2 rfl) ?_
          refine lv_imul hx hb dX9_copyLand_189 ?_
          refine z_topi (y := 0) (by decide +kernel) ?_
          refine lv_iload_n hx hb dX9_copyLand_190 rfl (lv_at hl 0 rfl) ?_
          refine lv_iadd hx hb dX9_copyLand_191 ?_
          refine z_topi (y := nI (0 + i)) (nI_add 0 i) ?_
          refine va_iald hx hb hK hP 7 1 rfl rfl (z_in (nI_toInt (by omega)) (by omega) (by omega)) dX9_copyLand_192 ?_
          refine z_topi (y := 0) rfl ?_
          refine z_iast0 hx hb hK hP hD hS 7 1 rfl rfl (z_in (nI_toInt (by omega)) (by omega) (by omega)) rfl dX9_copyLand_193 (fun H locs hP hS => ?_)
          refine lv_aload_n hx hb dX9_copyLand_194 rfl (lv_at hl 1 rfl) ?_
          refine va_get (D := (dC, dI)) (ci := 9) (v := .ref (am 13)) (C := RX9) (T := TX9) (N := 60) hx hb hts hi9 hown hK hP 0 rfl rfl 23 (by decide) hk10 (fun _ h9 => h9) rfl dX9_copyLand_195 ?_
          refine lv_bipush (v := 8) hx hb dX9_copyLand_198 (by decide) ?_
          refine lv_iload_n hx hb dX9_copyLand_200 rfl (lv_at hl 3 rfl) ?_
          refine lv_imul hx hb dX9_copyLand_201 ?_
          refine z_topi (y := 24) (by decide +kernel) ?_
          refine lv_iload_n hx hb dX9_copyLand_202 rfl (lv_at hl 0 rfl) ?_
          refine lv_iadd hx hb dX9_copyLand_203 ?_
          refine z_topi (y := nI (24 + i)) (nI_add 24 i) ?_
          refine lv_aload_n hx hb dX9_copyLand_204 rfl (lv_at hl 1 rfl) ?_
          refine va_get (D := (dC, dI)) (ci := 9) (v := .ref (am 13)) (C := RX9) (T := TX9) (N := 60) hx hb hts hi9 hown hK hP 0 rfl rfl 23 (by decide) hk10 (fun _ h9 => h9) rfl dX9_copyLand_205 ?_
          refine lv_bipush (v := 8) hx hb dX9_copyLand_208 (by decide) ?_
          refine lv_iload_n hx hb dX9_copyLand_210 rfl (lv_at hl 2 rfl) ?_
          refine lv_imul hx hb dX9_copyLand_211 ?_
          refine z_topi (y := 0) (by decide +kernel) ?_
          refine lv_iload_n hx hb dX9_copyLand_212 rfl (lv_at hl 0 rfl) ?_
          refine lv_iadd hx hb dX9_copyLand_213 ?_
          refine z_topi (y := nI (0 + i)) (nI_add 0 i) ?_
          refine va_iald hx hb hK hP 8 1 rfl rfl (z_in (nI_toInt (by omega)) (by omega) (by omega)) dX9_copyLand_214 ?_
          refine z_topi (y := 0) rfl ?_
          refine z_iast0 hx hb hK hP hD hS 8 1 rfl rfl (z_in (nI_toInt (by omega)) (by omega) (by omega)) rfl dX9_copyLand_215 (fun H locs hP hS => ?_)
          refine lv_aload_n hx hb dX9_copyLand_216 rfl (lv_at hl 1 rfl) ?_
          refine va_get (D := (dC, dI)) (ci := 9) (v := .ref (am 14)) (C := RX9) (T := TX9) (N := 60) hx hb hts hi9 hown hK hP 0 rfl rfl 24 (by decide) hk11 (fun _ h9 => h9) rfl dX9_copyLand_217 ?_
          refine lv_bipush (v := 8) hx hb dX9_copyLand_220 (by decide) ?_
          refine lv_iload_n hx hb dX9_copyLand_222 rfl (lv_at hl 3 rfl) ?_
          refine lv_imul hx hb dX9_copyLand_223 ?_
          refine z_topi (y := 24) (by decide +kernel) ?_
          refine lv_iload_n hx hb dX9_copyLand_224 rfl (lv_at hl 0 rfl) ?_
          refine lv_iadd hx hb dX9_copyLand_225 ?_
          refine z_topi (y := nI (24 + i)) (nI_add 24 i) ?_
          refine lv_aload_n hx hb dX9_copyLand_226 rfl (lv_at hl 1 rfl) ?_
          refine va_get (D := (dC, dI)) (ci := 9) (v := .ref (am 14)) (C := RX9) (T := TX9) (N := 60) hx hb hts hi9 hown hK hP 0 rfl rfl 24 (by decide) hk11 (fun _ h9 => h9) rfl dX9_copyLand_227 ?_
          refine lv_bipush (v := 8) hx hb dX9_copyLand_230 (by decide) ?_
          refine lv_iload_n hx hb dX9_copyLand_232 rfl (lv_at hl 2 rfl) ?_
          refine lv_imul hx hb dX9_copyLand_233 ?_
          refine z_topi (y := 0) (by decide +kernel) ?_
          refine lv_iload_n hx hb dX9_copyLand_234 rfl (lv_at hl 0 rfl) ?_
          refine lv_iadd hx hb dX9_copyLand_235 ?_
          refine z_topi (y := nI (0 + i)) (nI_add 0 i) ?_
          refine va_iald hx hb hK hP 9 1 rfl rfl (z_in (nI_toInt (by omega)) (by omega) (by omega)) dX9_copyLand_236 ?_
          refine z_topi (y := 0) rfl ?_
          refine z_iast0 hx hb hK hP hD hS 9 1 rfl rfl (z_in (nI_toInt (by omega)) (by omega) (by omega)) rfl dX9_copyLand_237 (fun H locs hP hS => ?_)
          refine lv_iinc (v := nI (i + 1)) (lv' := [(3, .int (nI (i + 1))), (0, .ref (am 0)), (1, .int 0), (2, .int 3)]) hx hb dX9_copyLand_238 hl (k := 0) rfl (nI_1 i) (by decide) rfl (fun ls hl => ?_)
          refine lv_goto (tgt := 144) hx hb dX9_copyLand_241 (by decide) ?_
          exact ih (i + 1) (by omega) (by omega) _ _ hP hS ls (lv_sub hl [0, 1, 2, 3] rfl)
      exact hlp2 8 0 rfl (by omega) _ _ hP hS ls (lv_sub hl [0, 1, 2, 3] rfl)
    | succ n ih =>
      intro i hi hi0 H locs hP hS ls hl
      have hlt : i < 6 := by omega
      refine lv_iload_n hx hb dX9_copyLand_86 rfl (lv_at hl 0 rfl) ?_
      refine lv_bipush (v := 6) hx hb dX9_copyLand_87 (by decide) ?_
      refine lv_icmp_ge (tgt := 142) hx hb dX9_copyLand_89 (by decide) (fun c => absurd (show 6 ≤ (i : Int) from z_le (by decide) (nI_toInt (by omega)) c) (by omega)) (fun _ => ?_)
      refine lv_aload_n hx hb dX9_copyLand_92 rfl (lv_at hl 1 rfl) ?_
      refine va_get (D := (dC, dI)) (ci := 9) (v := .ref (am 8)) (C := RX9) (T := TX9) (N := 60) hx hb hts hi9 hown hK hP 0 rfl rfl 18 (by decide) hk12 (fun _ h9 => h9) rfl dX9_copyLand_93 ?_
      refine lv_bipush (v := 6) hx hb dX9_copyLand_96 (by decide) ?_
      refine lv_iload_n hx hb dX9_copyLand_98 rfl (lv_at hl 3 rfl) ?_
      refine lv_imul hx hb dX9_copyLand_99 ?_
      refine z_topi (y := 18) (by decide +kernel) ?_
      refine lv_iload_n hx hb dX9_copyLand_100 rfl (lv_at hl 0 rfl) ?_
      refine lv_iadd hx hb dX9_copyLand_101 ?_
      refine z_topi (y := nI (18 + i)) (nI_add 18 i) ?_
      refine lv_aload_n hx hb dX9_copyLand_102 rfl (lv_at hl 1 rfl) ?_
      refine va_get (D := (dC, dI)) (ci := 9) (v := .ref (am 8)) (C := RX9) (T := TX9) (N := 60) hx hb hts hi9 hown hK hP 0 rfl rfl 18 (by decide) hk12 (fun _ h9 => h9) rfl dX9_copyLand_103 ?_
      refine lv_bipush (v := 6) hx hb dX9_copyLand_106 (by decide) ?_
      refine lv_iload_n hx hb dX9_copyLand_108 rfl (lv_at hl 2 rfl) ?_
      refine lv_imul hx hb dX9_copyLand_109 ?_
      refine z_topi (y := 0) (by decide +kernel) ?_
      refine lv_iload_n hx hb dX9_copyLand_110 rfl (lv_at hl 0 rfl) ?_
      refine lv_iadd hx hb dX9_copyLand_111 ?_
      refine z_topi (y := nI (0 + i)) (nI_add 0 i) ?_
      refine va_iald hx hb hK hP 3 1 rfl rfl (z_in (nI_toInt (by omega)) (by omega) (by omega)) dX9_copyLand_112 ?_
      refine z_topi (y := 0) rfl ?_
      refine z_iast0 hx hb hK hP hD hS 3 1 rfl rfl (z_in (nI_toInt (by omega)) (by omega) (by omega)) rfl dX9_copyLand_113 (fun H locs hP hS => ?_)
      refine lv_aload_n hx hb dX9_copyLand_114 rfl (lv_at hl 1 rfl) ?_
      refine va_get (D := (dC, dI)) (ci := 9) (v := .ref (am 9)) (C := RX9) (T := TX9) (N := 60) hx hb hts hi9 hown hK hP 0 rfl rfl 19 (by decide) hk13 (fun _ h9 => h9) rfl dX9_copyLand_115 ?_
      refine lv_bipush (v := 6) hx hb dX9_copyLand_118 (by decide) ?_
      refine lv_iload_n hx hb dX9_copyLand_120 rfl (lv_at hl 3 rfl) ?_
      refine lv_imul hx hb dX9_copyLand_121 ?_
      refine z_topi (y := 18) (by decide +kernel) ?_
      refine lv_iload_n hx hb dX9_copyLand_122 rfl (lv_at hl 0 rfl) ?_
      refine lv_iadd hx hb dX9_copyLand_123 ?_
      refine z_topi (y := nI (18 + i)) (nI_add 18 i) ?_
      refine lv_aload_n hx hb dX9_copyLand_124 rfl (lv_at hl 1 rfl) ?_
      refine va_get (D := (dC, dI)) (ci := 9) (v := .ref (am 9)) (C := RX9) (T := TX9) (N := 60) hx hb hts hi9 hown hK hP 0 rfl rfl 19 (by decide) hk13 (fun _ h9 => h9) rfl dX9_copyLand_125 ?_
      refine lv_bipush (v := 6) hx hb dX9_copyLand_128 (by decide) ?_
      refine lv_iload_n hx hb dX9_copyLand_130 rfl (lv_at hl 2 rfl) ?_
      refine lv_imul hx hb dX9_copyLand_131 ?_
      refine z_topi (y := 0) (by decide +kernel) ?_
      refine lv_iload_n hx hb dX9_copyLand_132 rfl (lv_at hl 0 rfl) ?_
      refine lv_iadd hx hb dX9_copyLand_133 ?_
      refine z_topi (y := nI (0 + i)) (nI_add 0 i) ?_
      refine va_iald hx hb hK hP 4 1 rfl rfl (z_in (nI_toInt (by omega)) (by omega) (by omega)) dX9_copyLand_134 ?_
      refine z_topi (y := 0) rfl ?_
      refine z_iast0 hx hb hK hP hD hS 4 1 rfl rfl (z_in (nI_toInt (by omega)) (by omega) (by omega)) rfl dX9_copyLand_135 (fun H locs hP hS => ?_)
      refine lv_iinc (v := nI (i + 1)) (lv' := [(3, .int (nI (i + 1))), (0, .ref (am 0)), (1, .int 0), (2, .int 3)]) hx hb dX9_copyLand_136 hl (k := 0) rfl (nI_1 i) (by decide) rfl (fun ls hl => ?_)
      refine lv_goto (tgt := 86) hx hb dX9_copyLand_139 (by decide) ?_
      exact ih (i + 1) (by omega) (by omega) _ _ hP hS ls (lv_sub hl [0, 1, 2, 3] rfl)
  exact hlp1 6 0 rfl (by omega) _ _ hP hS ls (lv_sub hl [0, 1, 2, 3] rfl)
set_option maxHeartbeats 4000000 in
set_option maxRecDepth 100000 in
theorem c_X9_copySheets_256 (l : Launch) (dC : Nat → ClassId) (dI : Nat → Nat → Nat) (cB cI cJ cZ cP cQ : ClassId) (am : Nat → Nat) (sz : Nat) : Met l yX9_copySheets wsX9_copySheets ({ frames := 0, cells := 0, slots := 0, locals := 0 } : Room) (zPc [.ref (am 0), .int 0, .int 3] (dC, dI) (zT cB cI cJ cZ cP cQ) [(am 0, .inr (9, mf0 am)), (am 25, .inl (cI, 5, .inl (fun _ => 0)))] sz [] []) (va_Qv (fun _ => True) (zB (dC, dI) (zT cB cI cJ cZ cP cQ) (fun _ : Unit => [(am 0, .inr (9, mf0 am)), (am 25, .inl (cI, 5, .inl (fun _ => 0)))]) [(am 0, .inr (9, mf0 am)), (am 25, .inl (cI, 5, .inl (fun _ => 0)))] sz) (va_A [(am 0, .inr (9, mf0 am)), (am 25, .inl (cI, 5, .inl (fun _ => 0)))] sz)) 0 0 (va_A [(am 0, .inr (9, mf0 am)), (am 25, .inl (cI, 5, .inl (fun _ => 0)))] sz) := by
  refine z_enter (cc := cX9_copySheets) (maxL := 4) (ret := none) (by decide) rfl (Nat.le_of_ble_eq_true rfl) ?_
  intro p e s m below meth c A ls Q H locs hx hb hr hml hown hts hlocks hin hK hP hD hA hX hS hAe hQ hl
  have hown : s.vm.findClass RX9 = some m.cls := hown
  have hi9 : ∀ w ∈ wsX90, w ∈ wsX9_copySheets := fun w h => List.mem_cons_of_mem _ (List.mem_append_right _ h)
  have hk0 := hts (.fieldLink RX9 89 "MonthPushModel" "sheets" "[I") (by decide +kernel)
  have hl : lv_has ls 4 [(0, .ref (am 0)), (1, .int 0), (2, .int 3)] := hl
  refine lv_aload_n hx hb dX9_copySheets_0 rfl (lv_at hl 0 rfl) ?_
  refine va_get (D := (dC, dI)) (ci := 9) (v := .ref (am 25)) (C := RX9) (T := TX9) (N := 60) hx hb hts hi9 hown hK hP 0 rfl rfl 35 (by decide) hk0 (fun _ h9 => h9) rfl dX9_copySheets_1 ?_
  refine lv_iload_n hx hb dX9_copySheets_4 rfl (lv_at hl 2 rfl) ?_
  refine lv_aload_n hx hb dX9_copySheets_5 rfl (lv_at hl 0 rfl) ?_
  refine va_get (D := (dC, dI)) (ci := 9) (v := .ref (am 25)) (C := RX9) (T := TX9) (N := 60) hx hb hts hi9 hown hK hP 0 rfl rfl 35 (by decide) hk0 (fun _ h9 => h9) rfl dX9_copySheets_6 ?_
  refine lv_iload_n hx hb dX9_copySheets_9 rfl (lv_at hl 1 rfl) ?_
  refine va_iald hx hb hK hP 1 1 rfl rfl (z_in (a := 0) (by decide) (by decide) (by decide)) dX9_copySheets_10 ?_
  refine z_topi (y := 0) rfl ?_
  refine z_iast0 hx hb hK hP hD hS 1 1 rfl rfl (z_in (a := 3) (by decide) (by decide) (by decide)) rfl dX9_copySheets_11 (fun H locs hP hS => ?_)
  refine lv_iconst (v := 0) hx hb dX9_copySheets_12 (by decide) ?_
  refine lv_istore_n (lv' := [(3, .int 0), (0, .ref (am 0)), (1, .int 0), (2, .int 3)]) hx hb dX9_copySheets_13 rfl hl (by decide) rfl (fun ls hl => ?_)
  refine lv_iload_n hx hb dX9_copySheets_14 rfl (lv_at hl 0 rfl) ?_
  refine lv_aload_n hx hb dX9_copySheets_15 rfl (lv_at hl 1 rfl) ?_
  refine va_get (D := (dC, dI)) (ci := 9) (v := .ref (am 25)) (C := RX9) (T := TX9) (N := 60) hx hb hts hi9 hown hK hP 0 rfl rfl 35 (by decide) hk0 (fun _ h9 => h9) rfl dX9_copySheets_16 ?_
  refine lv_iload_n hx hb dX9_copySheets_19 rfl (lv_at hl 2 rfl) ?_
  refine va_iald hx hb hK hP 1 1 rfl rfl (z_in (a := 0) (by decide) (by decide) (by decide)) dX9_copySheets_20 ?_
  refine z_topi (y := 0) rfl ?_
  refine lv_icmp_ge (tgt := 48) hx hb dX9_copySheets_21 (by decide) (fun _ => ?_) (fun c => absurd (by decide) c)
  exact z_vret () hx hb hr hlocks hK hP hD hS hAe hQ rfl trivial dX9_copySheets_48
set_option maxHeartbeats 4000000 in
set_option maxRecDepth 100000 in
theorem c_X9_keep_256 (l : Launch) (dC : Nat → ClassId) (dI : Nat → Nat → Nat) (cB cI cJ cZ cP cQ : ClassId) (am : Nat → Nat) (sz : Nat) (p1 : Int32) : Met l yX9_keep wsX9_keep ({ frames := 1, cells := 0, slots := 0, locals := 25 } : Room) (zPc [.ref (am 0), .int p1] (dC, dI) (zT cB cI cJ cZ cP cQ) [(am 0, .inr (9, mf0 am)), (am 6, .inl (cI, 5, .inl (fun _ => 0))), (am 7, .inl (cI, 5, .inl (fun _ => 0))), (am 8, .inl (cI, 30, .inl (fun _ => 0))), (am 9, .inl (cI, 30, .inl (fun _ => 0))), (am 10, .inl (cI, 5, .inl (fun _ => 0))), (am 11, .inl (cI, 40, .inl (fun _ => 0))), (am 12, .inl (cI, 40, .inl (fun _ => 0))), (am 13, .inl (cI, 40, .inl (fun _ => 0))), (am 14, .inl (cI, 40, .inl (fun _ => 0))), (am 16, .inl (cI, 60, .inl (fun _ => 0))), (am 17, .inl (cZ, 5, .inl (fun _ => 0))), (am 19, .inl (cI, 5, .inl (fun _ => 0))), (am 20, .inl (cI, 5, .inl (fun _ => 0))), (am 21, .inl (cI, 5, .inl (fun _ => 0))), (am 23, .inl (cZ, 3, .inl (fun _ => 0))), (am 25, .inl (cI, 5, .inl (fun _ => 0)))] sz [] []) (va_Qi (fun r _ => (fun r => (r = (-2) ∧ p1.toInt < 0) ∨ (r = (-2) ∧ 0 ≤ p1.toInt ∧ 2 < p1.toInt) ∨ (r = 0 ∧ 0 ≤ p1.toInt ∧ p1.toInt ≤ 2)) r) (zB (dC, dI) (zT cB cI cJ cZ cP cQ) (fun _ : Unit => []) [(am 0, .inr (9, mf0 am)), (am 6, .inl (cI, 5, .inl (fun _ => 0))), (am 7, .inl (cI, 5, .inl (fun _ => 0))), (am 8, .inl (cI, 30, .inl (fun _ => 0))), (am 9, .inl (cI, 30, .inl (fun _ => 0))), (am 10, .inl (cI, 5, .inl (fun _ => 0))), (am 11, .inl (cI, 40, .inl (fun _ => 0))), (am 12, .inl (cI, 40, .inl (fun _ => 0))), (am 13, .inl (cI, 40, .inl (fun _ => 0))), (am 14, .inl (cI, 40, .inl (fun _ => 0))), (am 16, .inl (cI, 60, .inl (fun _ => 0))), (am 17, .inl (cZ, 5, .inl (fun _ => 0))), (am 19, .inl (cI, 5, .inl (fun _ => 0))), (am 20, .inl (cI, 5, .inl (fun _ => 0))), (am 21, .inl (cI, 5, .inl (fun _ => 0))), (am 23, .inl (cZ, 3, .inl (fun _ => 0))), (am 25, .inl (cI, 5, .inl (fun _ => 0)))] sz) (va_A [(am 0, .inr (9, mf0 am)), (am 6, .inl (cI, 5, .inl (fun _ => 0))), (am 7, .inl (cI, 5, .inl (fun _ => 0))), (am 8, .inl (cI, 30, .inl (fun _ => 0))), (am 9, .inl (cI, 30, .inl (fun _ => 0))), (am 10, .inl (cI, 5, .inl (fun _ => 0))), (am 11, .inl (cI, 40, .inl (fun _ => 0))), (am 12, .inl (cI, 40, .inl (fun _ => 0))), (am 13, .inl (cI, 40, .inl (fun _ => 0))), (am 14, .inl (cI, 40, .inl (fun _ => 0))), (am 16, .inl (cI, 60, .inl (fun _ => 0))), (am 17, .inl (cZ, 5, .inl (fun _ => 0))), (am 19, .inl (cI, 5, .inl (fun _ => 0))), (am 20, .inl (cI, 5, .inl (fun _ => 0))), (am 21, .inl (cI, 5, .inl (fun _ => 0))), (am 23, .inl (cZ, 3, .inl (fun _ => 0))), (am 25, .inl (cI, 5, .inl (fun _ => 0)))] sz)) 0 0 (va_A [(am 0, .inr (9, mf0 am)), (am 6, .inl (cI, 5, .inl (fun _ => 0))), (am 7, .inl (cI, 5, .inl (fun _ => 0))), (am 8, .inl (cI, 30, .inl (fun _ => 0))), (am 9, .inl (cI, 30, .inl (fun _ => 0))), (am 10, .inl (cI, 5, .inl (fun _ => 0))), (am 11, .inl (cI, 40, .inl (fun _ => 0))), (am 12, .inl (cI, 40, .inl (fun _ => 0))), (am 13, .inl (cI, 40, .inl (fun _ => 0))), (am 14, .inl (cI, 40, .inl (fun _ => 0))), (am 16, .inl (cI, 60, .inl (fun _ => 0))), (am 17, .inl (cZ, 5, .inl (fun _ => 0))), (am 19, .inl (cI, 5, .inl (fun _ => 0))), (am 20, .inl (cI, 5, .inl (fun _ => 0))), (am 21, .inl (cI, 5, .inl (fun _ => 0))), (am 23, .inl (cZ, 3, .inl (fun _ => 0))), (am 25, .inl (cI, 5, .inl (fun _ => 0)))] sz) := by
  refine z_enter (cc := cX9_keep) (maxL := 2) (ret := (some .int)) (by decide) rfl (Nat.le_of_ble_eq_true rfl) ?_
  intro p e s m below meth c A ls Q H locs hx hb hr hml hown hts hlocks hin hK hP hD hA hX hS hAe hQ hl
  have hown : s.vm.findClass RX9 = some m.cls := hown
  have hi9 : ∀ w ∈ wsX90, w ∈ wsX9_keep := fun w h => List.mem_cons_of_mem _ (List.mem_append_right _ h)
  have hk0 := hts (.fieldLink RX9 125 "MonthPushModel" "thrown" "I") (by decide +kernel)
  have hk1 := hts (.constantLong RX9 455 2) (by decide +kernel)
  have hk2 := hts (.fieldLink RX9 83 "MonthPushModel" "isKept" "[Z") (by decide +kernel)
  have hl : lv_has ls 2 [(0, .ref (am 0)), (1, .int p1)] := hl
  refine lv_aload_n hx hb dX9_keep_0 rfl (lv_at hl 0 rfl) ?_
  refine lv_iconst (v := 0) hx hb dX9_keep_1 (by decide) ?_
  refine z_put0 (D := (dC, dI)) (ci := 9) (v := .int 0) (ty := .int) (C := RX9) (T := TX9) (N := 60) hx hb hts hi9 tyX9 tyX9_ok nmX9 hown hK hP hD hS 0 rfl rfl 0 (by decide) hk0 (fun _ h9 => h9) rfl (by decide +kernel) rfl rfl rfl dX9_keep_2 (fun H locs hP hS => ?_)
  refine lv_iload_n hx hb dX9_keep_5 rfl (lv_at hl 1 rfl) ?_
  refine lv_i2l hx hb dX9_keep_6 rfl ?_
  refine lv_lconst (v := 0) hx hb dX9_keep_7 (by decide) ?_
  refine lv_ldc2 hx hb hown hk1 dX9_keep_8 ?_
  refine z_fini (w' := fun (u1 : Unit) => [(am 0, .inr (9, mf0 am)), (am 6, .inl (cI, 5, .inl (fun _ => 0))), (am 7, .inl (cI, 5, .inl (fun _ => 0))), (am 8, .inl (cI, 30, .inl (fun _ => 0))), (am 9, .inl (cI, 30, .inl (fun _ => 0))), (am 10, .inl (cI, 5, .inl (fun _ => 0))), (am 11, .inl (cI, 40, .inl (fun _ => 0))), (am 12, .inl (cI, 40, .inl (fun _ => 0))), (am 13, .inl (cI, 40, .inl (fun _ => 0))), (am 14, .inl (cI, 40, .inl (fun _ => 0))), (am 16, .inl (cI, 60, .inl (fun _ => 0))), (am 17, .inl (cZ, 5, .inl (fun _ => 0))), (am 19, .inl (cI, 5, .inl (fun _ => 0))), (am 20, .inl (cI, 5, .inl (fun _ => 0))), (am 21, .inl (cI, 5, .inl (fun _ => 0))), (am 23, .inl (cZ, 3, .inl (fun _ => 0))), (am 25, .inl (cI, 5, .inl (fun _ => 0)))]) (va_runS (As := [.long p1.toInt64, .long 0, .long 2]) (rest := []) ⟨hx, hb, hml, hown, hts⟩ (c_X9_in_222 l dC dI cB cI cJ cZ cP cQ H.size p1) (va_cwS 3 hts gX9_keep_X9_in rfl rfl rfl (by decide +kernel) ⟨Nat.le_of_ble_eq_true rfl, Nat.le_of_ble_eq_true rfl⟩) (z_pS hK hP hD zX_nil [] (by decide) rfl) rfl rfl hl.1 rfl (lv_room (Nat.le_of_ble_eq_true rfl)) dX9_keep_11 ⟨Nat.le_of_ble_eq_true rfl, Nat.le_of_ble_eq_true rfl⟩) hP hD hS hA [] [0, 1, 2, 3, 4, 5, 6, 7, 8, 9, 10, 11, 12, 13, 14, 15, 16] [0, 1, 2, 3, 4, 5, 6, 7, 8, 9, 10, 11, 12, 13, 14, 15, 16] rfl rfl (by decide) (by decide) (fun _ => rfl) (by decide) (fun r2 u1 H locs hp3 hP hD hS => ?_)
  have hP : va_P (dC, dI) vwCl [(am 0, .inr (9, mf0 am)), (am 6, .inl (cI, 5, .inl (fun _ => 0))), (am 7, .inl (cI, 5, .inl (fun _ => 0))), (am 8, .inl (cI, 30, .inl (fun _ => 0))), (am 9, .inl (cI, 30, .inl (fun _ => 0))), (am 10, .inl (cI, 5, .inl (fun _ => 0))), (am 11, .inl (cI, 40, .inl (fun _ => 0))), (am 12, .inl (cI, 40, .inl (fun _ => 0))), (am 13, .inl (cI, 40, .inl (fun _ => 0))), (am 14, .inl (cI, 40, .inl (fun _ => 0))), (am 16, .inl (cI, 60, .inl (fun _ => 0))), (am 17, .inl (cZ, 5, .inl (fun _ => 0))), (am 19, .inl (cI, 5, .inl (fun _ => 0))), (am 20, .inl (cI, 5, .inl (fun _ => 0))), (am 21, .inl (cI, 5, .inl (fun _ => 0))), (am 23, .inl (cZ, 3, .inl (fun _ => 0))), (am 25, .inl (cI, 5, .inl (fun _ => 0)))] H := hP
  have hD : va_D A [(am 0, .inr (9, mf0 am)), (am 6, .inl (cI, 5, .inl (fun _ => 0))), (am 7, .inl (cI, 5, .inl (fun _ => 0))), (am 8, .inl (cI, 30, .inl (fun _ => 0))), (am 9, .inl (cI, 30, .inl (fun _ => 0))), (am 10, .inl (cI, 5, .inl (fun _ => 0))), (am 11, .inl (cI, 40, .inl (fun _ => 0))), (am 12, .inl (cI, 40, .inl (fun _ => 0))), (am 13, .inl (cI, 40, .inl (fun _ => 0))), (am 14, .inl (cI, 40, .inl (fun _ => 0))), (am 16, .inl (cI, 60, .inl (fun _ => 0))), (am 17, .inl (cZ, 5, .inl (fun _ => 0))), (am 19, .inl (cI, 5, .inl (fun _ => 0))), (am 20, .inl (cI, 5, .inl (fun _ => 0))), (am 21, .inl (cI, 5, .inl (fun _ => 0))), (am 23, .inl (cZ, 3, .inl (fun _ => 0))), (am 25, .inl (cI, 5, .inl (fun _ => 0)))] := hD
  refine W.widen (k := 0) (n := 0) (by decide) (by decide) ?_
  rcases hp3 with ⟨rfl, f4⟩ | ⟨rfl, f5, f6⟩ | ⟨rfl, f7, f8⟩
  · refine lv_if_ne (tgt := 20) hx hb dX9_keep_14 (by decide) (fun c => absurd (by decide) c) (fun _ => ?_)
    refine lv_bipush (v := (-2)) hx hb dX9_keep_17 (by decide) ?_
    have hP9 := hP.sub (ws' := []) [] rfl
    have hD9 := hD.sub (ws' := []) [] (by decide) rfl
    exact z_iret () hx hb hr hlocks hK hP9 hD9 hS hAe hQ rfl (Or.inl (⟨rfl, f4⟩)) dX9_keep_19
  · refine lv_if_ne (tgt := 20) hx hb dX9_keep_14 (by decide) (fun c => absurd (by decide) c) (fun _ => ?_)
    refine lv_bipush (v := (-2)) hx hb dX9_keep_17 (by decide) ?_
    have hP9 := hP.sub (ws' := []) [] rfl
    have hD9 := hD.sub (ws' := []) [] (by decide) rfl
    exact z_iret () hx hb hr hlocks hK hP9 hD9 hS hAe hQ rfl (Or.inr (Or.inl ⟨rfl, f5, f6⟩)) dX9_keep_19
  · refine lv_if_ne (tgt := 20) hx hb dX9_keep_14 (by decide) (fun _ => ?_) (fun c => absurd c (by decide))
    obtain rfl | rfl | rfl : p1 = 0 ∨ p1 = 1 ∨ p1 = 2 := z_cases3  (by omega) (by omega)
    · have hP : va_P (dC, dI) vwCl [(am 0, .inr (9, mf0 am)), (am 6, .inl (cI, 5, .inl (fun _ => 0))), (am 7, .inl (cI, 5, .inl (fun _ => 0))), (am 8, .inl (cI, 30, .inl (fun _ => 0))), (am 9, .inl (cI, 30, .inl (fun _ => 0))), (am 10, .inl (cI, 5, .inl (fun _ => 0))), (am 11, .inl (cI, 40, .inl (fun _ => 0))), (am 12, .inl (cI, 40, .inl (fun _ => 0))), (am 13, .inl (cI, 40, .inl (fun _ => 0))), (am 14, .inl (cI, 40, .inl (fun _ => 0))), (am 16, .inl (cI, 60, .inl (fun _ => 0))), (am 17, .inl (cZ, 5, .inl (fun _ => 0))), (am 19, .inl (cI, 5, .inl (fun _ => 0))), (am 20, .inl (cI, 5, .inl (fun _ => 0))), (am 21, .inl (cI, 5, .inl (fun _ => 0))), (am 23, .inl (cZ, 3, .inl (fun _ => 0))), (am 25, .inl (cI, 5, .inl (fun _ => 0)))] H := by assumption
      have hD : va_D A [(am 0, .inr (9, mf0 am)), (am 6, .inl (cI, 5, .inl (fun _ => 0))), (am 7, .inl (cI, 5, .inl (fun _ => 0))), (am 8, .inl (cI, 30, .inl (fun _ => 0))), (am 9, .inl (cI, 30, .inl (fun _ => 0))), (am 10, .inl (cI, 5, .inl (fun _ => 0))), (am 11, .inl (cI, 40, .inl (fun _ => 0))), (am 12, .inl (cI, 40, .inl (fun _ => 0))), (am 13, .inl (cI, 40, .inl (fun _ => 0))), (am 14, .inl (cI, 40, .inl (fun _ => 0))), (am 16, .inl (cI, 60, .inl (fun _ => 0))), (am 17, .inl (cZ, 5, .inl (fun _ => 0))), (am 19, .inl (cI, 5, .inl (fun _ => 0))), (am 20, .inl (cI, 5, .inl (fun _ => 0))), (am 21, .inl (cI, 5, .inl (fun _ => 0))), (am 23, .inl (cZ, 3, .inl (fun _ => 0))), (am 25, .inl (cI, 5, .inl (fun _ => 0)))] := by assumption
      refine lv_aload_n hx hb dX9_keep_20 rfl (lv_at hl 0 rfl) ?_
      refine lv_iconst (v := 0) hx hb dX9_keep_21 (by decide) ?_
      refine lv_iconst (v := 1) hx hb dX9_keep_22 (by decide) ?_
      refine lv_iload_n hx hb dX9_keep_23 rfl (lv_at hl 1 rfl) ?_
      refine lv_iadd hx hb dX9_keep_24 ?_
      refine z_topi (y := 1) (by decide +kernel) ?_
      refine z_finv (w' := fun (u9 : Unit) => [(am 0, .inr (9, mf0 am)), (am 6, .inl (cI, 5, .inl (fun _ => 0))), (am 7, .inl (cI, 5, .inl (fun _ => 0))), (am 8, .inl (cI, 30, .inl (fun _ => 0))), (am 9, .inl (cI, 30, .inl (fun _ => 0))), (am 10, .inl (cI, 5, .inl (fun _ => 0))), (am 11, .inl (cI, 40, .inl (fun _ => 0))), (am 12, .inl (cI, 40, .inl (fun _ => 0))), (am 13, .inl (cI, 40, .inl (fun _ => 0))), (am 14, .inl (cI, 40, .inl (fun _ => 0))), (am 16, .inl (cI, 60, .inl (fun _ => 0))), (am 17, .inl (cZ, 5, .inl (fun _ => 0))), (am 19, .inl (cI, 5, .inl (fun _ => 0))), (am 20, .inl (cI, 5, .inl (fun _ => 0))), (am 21, .inl (cI, 5, .inl (fun _ => 0))), (am 23, .inl (cZ, 3, .inl (fun _ => 0))), (am 25, .inl (cI, 5, .inl (fun _ => 0)))]) (va_runV (As := [.int 0, .int 1]) (rest := []) ⟨hx, hb, hml, hown, hts⟩ (c_X9_copyLand_251 l dC dI cB cI cJ cZ cP cQ am H.size) (cwV 2 hts gX9_keep_X9_copyLand rfl rfl rfl (by decide +kernel) ⟨Nat.le_of_ble_eq_true rfl, Nat.le_of_ble_eq_true rfl⟩) (z_pV (ci := 9) hK hP hD zX_nil [0, 1, 2, 3, 4, 5, 6, 7, 8, 9, 10, 11, 12, 13, 14] (by decide) rfl rfl 0 rfl) rfl rfl hl.1 rfl (lv_room (Nat.le_of_ble_eq_true rfl)) dX9_keep_25 ⟨Nat.le_of_ble_eq_true rfl, Nat.le_of_ble_eq_true rfl⟩) hP hD hS hA [0, 1, 2, 3, 4, 5, 6, 7, 8, 9, 10, 11, 12, 13, 14] [15, 16] [2, 3, 4, 5, 6, 7, 8, 9, 10, 11, 12, 13, 14, 15, 16, 0, 1] rfl rfl (by decide) (by decide) (fun _ => rfl) (by decide) (fun u9 H locs hp11 hP hD hS => ?_)
      have hP : va_P (dC, dI) vwCl [(am 0, .inr (9, mf0 am)), (am 6, .inl (cI, 5, .inl (fun _ => 0))), (am 7, .inl (cI, 5, .inl (fun _ => 0))), (am 8, .inl (cI, 30, .inl (fun _ => 0))), (am 9, .inl (cI, 30, .inl (fun _ => 0))), (am 10, .inl (cI, 5, .inl (fun _ => 0))), (am 11, .inl (cI, 40, .inl (fun _ => 0))), (am 12, .inl (cI, 40, .inl (fun _ => 0))), (am 13, .inl (cI, 40, .inl (fun _ => 0))), (am 14, .inl (cI, 40, .inl (fun _ => 0))), (am 16, .inl (cI, 60, .inl (fun _ => 0))), (am 17, .inl (cZ, 5, .inl (fun _ => 0))), (am 19, .inl (cI, 5, .inl (fun _ => 0))), (am 20, .inl (cI, 5, .inl (fun _ => 0))), (am 21, .inl (cI, 5, .inl (fun _ => 0))), (am 23, .inl (cZ, 3, .inl (fun _ => 0))), (am 25, .inl (cI, 5, .inl (fun _ => 0)))] H := hP
      have hD : va_D A [(am 0, .inr (9, mf0 am)), (am 6, .inl (cI, 5, .inl (fun _ => 0))), (am 7, .inl (cI, 5, .inl (fun _ => 0))), (am 8, .inl (cI, 30, .inl (fun _ => 0))), (am 9, .inl (cI, 30, .inl (fun _ => 0))), (am 10, .inl (cI, 5, .inl (fun _ => 0))), (am 11, .inl (cI, 40, .inl (fun _ => 0))), (am 12, .inl (cI, 40, .inl (fun _ => 0))), (am 13, .inl (cI, 40, .inl (fun _ => 0))), (am 14, .inl (cI, 40, .inl (fun _ => 0))), (am 16, .inl (cI, 60, .inl (fun _ => 0))), (am 17, .inl (cZ, 5, .inl (fun _ => 0))), (am 19, .inl (cI, 5, .inl (fun _ => 0))), (am 20, .inl (cI, 5, .inl (fun _ => 0))), (am 21, .inl (cI, 5, .inl (fun _ => 0))), (am 23, .inl (cZ, 3, .inl (fun _ => 0))), (am 25, .inl (cI, 5, .inl (fun _ => 0)))] := hD
      refine W.widen (k := 0) (n := 0) (by decide) (by decide) ?_
      refine lv_aload_n hx hb dX9_keep_28 rfl (lv_at hl 0 rfl) ?_
      refine lv_iconst (v := 0) hx hb dX9_keep_29 (by decide) ?_
      refine lv_iconst (v := 1) hx hb dX9_keep_30 (by decide) ?_
      refine lv_iload_n hx hb dX9_keep_31 rfl (lv_at hl 1 rfl) ?_
      refine lv_iadd hx hb dX9_keep_32 ?_
      refine z_topi (y := 1) (by decide +kernel) ?_
      refine z_finv (w' := fun (u12 : Unit) => [(am 0, .inr (9, mf0 am)), (am 6, .inl (cI, 5, .inl (fun _ => 0))), (am 7, .inl (cI, 5, .inl (fun _ => 0))), (am 8, .inl (cI, 30, .inl (fun _ => 0))), (am 9, .inl (cI, 30, .inl (fun _ => 0))), (am 10, .inl (cI, 5, .inl (fun _ => 0))), (am 11, .inl (cI, 40, .inl (fun _ => 0))), (am 12, .inl (cI, 40, .inl (fun _ => 0))), (am 13, .inl (cI, 40, .inl (fun _ => 0))), (am 14, .inl (cI, 40, .inl (fun _ => 0))), (am 16, .inl (cI, 60, .inl (fun _ => 0))), (am 17, .inl (cZ, 5, .inl (fun _ => 0))), (am 19, .inl (cI, 5, .inl (fun _ => 0))), (am 20, .inl (cI, 5, .inl (fun _ => 0))), (am 21, .inl (cI, 5, .inl (fun _ => 0))), (am 23, .inl (cZ, 3, .inl (fun _ => 0))), (am 25, .inl (cI, 5, .inl (fun _ => 0)))]) (va_runV (As := [.int 0, .int 1]) (rest := []) ⟨hx, hb, hml, hown, hts⟩ (c_X9_copySheets_252 l dC dI cB cI cJ cZ cP cQ am H.size) (cwV 2 hts gX9_keep_X9_copySheets rfl rfl rfl (by decide +kernel) ⟨Nat.le_of_ble_eq_true rfl, Nat.le_of_ble_eq_true rfl⟩) (z_pV (ci := 9) hK hP hD zX_nil [0, 16] (by decide) rfl rfl 0 rfl) rfl rfl hl.1 rfl (lv_room (Nat.le_of_ble_eq_true rfl)) dX9_keep_33 ⟨Nat.le_of_ble_eq_true rfl, Nat.le_of_ble_eq_true rfl⟩) hP hD hS hA [0, 16] [1, 2, 3, 4, 5, 6, 7, 8, 9, 10, 11, 12, 13, 14, 15] [15, 0, 1, 2, 3, 4, 5, 6, 7, 8, 9, 10, 11, 12, 13, 14, 16] rfl rfl (by decide) (by decide) (fun _ => rfl) (by decide) (fun u12 H locs hp14 hP hD hS => ?_)
      have hP : va_P (dC, dI) vwCl [(am 0, .inr (9, mf0 am)), (am 6, .inl (cI, 5, .inl (fun _ => 0))), (am 7, .inl (cI, 5, .inl (fun _ => 0))), (am 8, .inl (cI, 30, .inl (fun _ => 0))), (am 9, .inl (cI, 30, .inl (fun _ => 0))), (am 10, .inl (cI, 5, .inl (fun _ => 0))), (am 11, .inl (cI, 40, .inl (fun _ => 0))), (am 12, .inl (cI, 40, .inl (fun _ => 0))), (am 13, .inl (cI, 40, .inl (fun _ => 0))), (am 14, .inl (cI, 40, .inl (fun _ => 0))), (am 16, .inl (cI, 60, .inl (fun _ => 0))), (am 17, .inl (cZ, 5, .inl (fun _ => 0))), (am 19, .inl (cI, 5, .inl (fun _ => 0))), (am 20, .inl (cI, 5, .inl (fun _ => 0))), (am 21, .inl (cI, 5, .inl (fun _ => 0))), (am 23, .inl (cZ, 3, .inl (fun _ => 0))), (am 25, .inl (cI, 5, .inl (fun _ => 0)))] H := hP
      have hD : va_D A [(am 0, .inr (9, mf0 am)), (am 6, .inl (cI, 5, .inl (fun _ => 0))), (am 7, .inl (cI, 5, .inl (fun _ => 0))), (am 8, .inl (cI, 30, .inl (fun _ => 0))), (am 9, .inl (cI, 30, .inl (fun _ => 0))), (am 10, .inl (cI, 5, .inl (fun _ => 0))), (am 11, .inl (cI, 40, .inl (fun _ => 0))), (am 12, .inl (cI, 40, .inl (fun _ => 0))), (am 13, .inl (cI, 40, .inl (fun _ => 0))), (am 14, .inl (cI, 40, .inl (fun _ => 0))), (am 16, .inl (cI, 60, .inl (fun _ => 0))), (am 17, .inl (cZ, 5, .inl (fun _ => 0))), (am 19, .inl (cI, 5, .inl (fun _ => 0))), (am 20, .inl (cI, 5, .inl (fun _ => 0))), (am 21, .inl (cI, 5, .inl (fun _ => 0))), (am 23, .inl (cZ, 3, .inl (fun _ => 0))), (am 25, .inl (cI, 5, .inl (fun _ => 0)))] := hD
      refine W.widen (k := 0) (n := 0) (by decide) (by decide) ?_
      refine lv_aload_n hx hb dX9_keep_36 rfl (lv_at hl 0 rfl) ?_
      refine va_get (D := (dC, dI)) (ci := 9) (v := .ref (am 23)) (C := RX9) (T := TX9) (N := 60) hx hb hts hi9 hown hK hP 0 rfl rfl 33 (by decide) hk2 (fun _ h9 => h9) rfl dX9_keep_37 ?_
      refine lv_iload_n hx hb dX9_keep_40 rfl (lv_at hl 1 rfl) ?_
      refine lv_iconst (v := 1) hx hb dX9_keep_41 (by decide) ?_
      refine va_zast hx hb hK hP hD hS 15 3 rfl rfl (z_in (a := 0) (by decide) (by decide) (by decide)) dX9_keep_42 (fun H locs hP hD hS => ?_)
      have hP : va_P (dC, dI) vwCl [(am 0, .inr (9, mf0 am)), (am 6, .inl (cI, 5, .inl (fun _ => 0))), (am 7, .inl (cI, 5, .inl (fun _ => 0))), (am 8, .inl (cI, 30, .inl (fun _ => 0))), (am 9, .inl (cI, 30, .inl (fun _ => 0))), (am 10, .inl (cI, 5, .inl (fun _ => 0))), (am 11, .inl (cI, 40, .inl (fun _ => 0))), (am 12, .inl (cI, 40, .inl (fun _ => 0))), (am 13, .inl (cI, 40, .inl (fun _ => 0))), (am 14, .inl (cI, 40, .inl (fun _ => 0))), (am 16, .inl (cI, 60, .inl (fun _ => 0))), (am 17, .inl (cZ, 5, .inl (fun _ => 0))), (am 19, .inl (cI, 5, .inl (fun _ => 0))), (am 20, .inl (cI, 5, .inl (fun _ => 0))), (am 21, .inl (cI, 5, .inl (fun _ => 0))), (am 23, .inl (cZ, 3, .inl (upd (fun _ => 0) (Int32.toNatClampNeg 0) (vp_nar .boolean 1)))), (am 25, .inl (cI, 5, .inl (fun _ => 0)))] H := hP
      have hD : va_D A [(am 0, .inr (9, mf0 am)), (am 6, .inl (cI, 5, .inl (fun _ => 0))), (am 7, .inl (cI, 5, .inl (fun _ => 0))), (am 8, .inl (cI, 30, .inl (fun _ => 0))), (am 9, .inl (cI, 30, .inl (fun _ => 0))), (am 10, .inl (cI, 5, .inl (fun _ => 0))), (am 11, .inl (cI, 40, .inl (fun _ => 0))), (am 12, .inl (cI, 40, .inl (fun _ => 0))), (am 13, .inl (cI, 40, .inl (fun _ => 0))), (am 14, .inl (cI, 40, .inl (fun _ => 0))), (am 16, .inl (cI, 60, .inl (fun _ => 0))), (am 17, .inl (cZ, 5, .inl (fun _ => 0))), (am 19, .inl (cI, 5, .inl (fun _ => 0))), (am 20, .inl (cI, 5, .inl (fun _ => 0))), (am 21, .inl (cI, 5, .inl (fun _ => 0))), (am 23, .inl (cZ, 3, .inl (upd (fun _ => 0) (Int32.toNatClampNeg 0) (vp_nar .boolean 1)))), (am 25, .inl (cI, 5, .inl (fun _ => 0)))] := hD
      obtain ⟨gg15, hgg15⟩ : ∃ g : Nat → Int32, g = upd (fun _ => 0) (Int32.toNatClampNeg 0) (vp_nar .boolean 1) := ⟨_, rfl⟩
      rw [← hgg15] at hP hD
      refine lv_iconst (v := 0) hx hb dX9_keep_43 (by decide) ?_
      have hP9 := hP.sub (ws' := []) [] rfl
      have hD9 := hD.sub (ws' := []) [] (by decide) rfl
      exact z_iret () hx hb hr hlocks hK hP9 hD9 hS hAe hQ rfl (Or.inr (Or.inr ⟨rfl, f7, f8⟩)) dX9_keep_44
    · have hP : va_P (dC, dI) vwCl [(am 0, .inr (9, mf0 am)), (am 6, .inl (cI, 5, .inl (fun _ => 0))), (am 7, .inl (cI, 5, .inl (fun _ => 0))), (am 8, .inl (cI, 30, .inl (fun _ => 0))), (am 9, .inl (cI, 30, .inl (fun _ => 0))), (am 10, .inl (cI, 5, .inl (fun _ => 0))), (am 11, .inl (cI, 40, .inl (fun _ => 0))), (am 12, .inl (cI, 40, .inl (fun _ => 0))), (am 13, .inl (cI, 40, .inl (fun _ => 0))), (am 14, .inl (cI, 40, .inl (fun _ => 0))), (am 16, .inl (cI, 60, .inl (fun _ => 0))), (am 17, .inl (cZ, 5, .inl (fun _ => 0))), (am 19, .inl (cI, 5, .inl (fun _ => 0))), (am 20, .inl (cI, 5, .inl (fun _ => 0))), (am 21, .inl (cI, 5, .inl (fun _ => 0))), (am 23, .inl (cZ, 3, .inl (fun _ => 0))), (am 25, .inl (cI, 5, .inl (fun _ => 0)))] H := by assumption
      have hD : va_D A [(am 0, .inr (9, mf0 am)), (am 6, .inl (cI, 5, .inl (fun _ => 0))), (am 7, .inl (cI, 5, .inl (fun _ => 0))), (am 8, .inl (cI, 30, .inl (fun _ => 0))), (am 9, .inl (cI, 30, .inl (fun _ => 0))), (am 10, .inl (cI, 5, .inl (fun _ => 0))), (am 11, .inl (cI, 40, .inl (fun _ => 0))), (am 12, .inl (cI, 40, .inl (fun _ => 0))), (am 13, .inl (cI, 40, .inl (fun _ => 0))), (am 14, .inl (cI, 40, .inl (fun _ => 0))), (am 16, .inl (cI, 60, .inl (fun _ => 0))), (am 17, .inl (cZ, 5, .inl (fun _ => 0))), (am 19, .inl (cI, 5, .inl (fun _ => 0))), (am 20, .inl (cI, 5, .inl (fun _ => 0))), (am 21, .inl (cI, 5, .inl (fun _ => 0))), (am 23, .inl (cZ, 3, .inl (fun _ => 0))), (am 25, .inl (cI, 5, .inl (fun _ => 0)))] := by assumption
      refine lv_aload_n hx hb dX9_keep_20 rfl (lv_at hl 0 rfl) ?_
      refine lv_iconst (v := 0) hx hb dX9_keep_21 (by decide) ?_
      refine lv_iconst (v := 1) hx hb dX9_keep_22 (by decide) ?_
      refine lv_iload_n hx hb dX9_keep_23 rfl (lv_at hl 1 rfl) ?_
      refine lv_iadd hx hb dX9_keep_24 ?_
      refine z_topi (y := 2) (by decide +kernel) ?_
      refine z_finv (w' := fun (u16 : Unit) => [(am 0, .inr (9, mf0 am)), (am 6, .inl (cI, 5, .inl (fun _ => 0))), (am 7, .inl (cI, 5, .inl (fun _ => 0))), (am 8, .inl (cI, 30, .inl (fun _ => 0))), (am 9, .inl (cI, 30, .inl (fun _ => 0))), (am 10, .inl (cI, 5, .inl (fun _ => 0))), (am 11, .inl (cI, 40, .inl (fun _ => 0))), (am 12, .inl (cI, 40, .inl (fun _ => 0))), (am 13, .inl (cI, 40, .inl (fun _ => 0))), (am 14, .inl (cI, 40, .inl (fun _ => 0))), (am 16, .inl (cI, 60, .inl (fun _ => 0))), (am 17, .inl (cZ, 5, .inl (fun _ => 0))), (am 19, .inl (cI, 5, .inl (fun _ => 0))), (am 20, .inl (cI, 5, .inl (fun _ => 0))), (am 21, .inl (cI, 5, .inl (fun _ => 0))), (am 23, .inl (cZ, 3, .inl (fun _ => 0))), (am 25, .inl (cI, 5, .inl (fun _ => 0)))]) (va_runV (As := [.int 0, .int 2]) (rest := []) ⟨hx, hb, hml, hown, hts⟩ (c_X9_copyLand_253 l dC dI cB cI cJ cZ cP cQ am H.size) (cwV 2 hts gX9_keep_X9_copyLand rfl rfl rfl (by decide +kernel) ⟨Nat.le_of_ble_eq_true rfl, Nat.le_of_ble_eq_true rfl⟩) (z_pV (ci := 9) hK hP hD zX_nil [0, 1, 2, 3, 4, 5, 6, 7, 8, 9, 10, 11, 12, 13, 14] (by decide) rfl rfl 0 rfl) rfl rfl hl.1 rfl (lv_room (Nat.le_of_ble_eq_true rfl)) dX9_keep_25 ⟨Nat.le_of_ble_eq_true rfl, Nat.le_of_ble_eq_true rfl⟩) hP hD hS hA [0, 1, 2, 3, 4, 5, 6, 7, 8, 9, 10, 11, 12, 13, 14] [15, 16] [2, 3, 4, 5, 6, 7, 8, 9, 10, 11, 12, 13, 14, 15, 16, 0, 1] rfl rfl (by decide) (by decide) (fun _ => rfl) (by decide) (fun u16 H locs hp18 hP hD hS => ?_)
      have hP : va_P (dC, dI) vwCl [(am 0, .inr (9, mf0 am)), (am 6, .inl (cI, 5, .inl (fun _ => 0))), (am 7, .inl (cI, 5, .inl (fun _ => 0))), (am 8, .inl (cI, 30, .inl (fun _ => 0))), (am 9, .inl (cI, 30, .inl (fun _ => 0))), (am 10, .inl (cI, 5, .inl (fun _ => 0))), (am 11, .inl (cI, 40, .inl (fun _ => 0))), (am 12, .inl (cI, 40, .inl (fun _ => 0))), (am 13, .inl (cI, 40, .inl (fun _ => 0))), (am 14, .inl (cI, 40, .inl (fun _ => 0))), (am 16, .inl (cI, 60, .inl (fun _ => 0))), (am 17, .inl (cZ, 5, .inl (fun _ => 0))), (am 19, .inl (cI, 5, .inl (fun _ => 0))), (am 20, .inl (cI, 5, .inl (fun _ => 0))), (am 21, .inl (cI, 5, .inl (fun _ => 0))), (am 23, .inl (cZ, 3, .inl (fun _ => 0))), (am 25, .inl (cI, 5, .inl (fun _ => 0)))] H := hP
      have hD : va_D A [(am 0, .inr (9, mf0 am)), (am 6, .inl (cI, 5, .inl (fun _ => 0))), (am 7, .inl (cI, 5, .inl (fun _ => 0))), (am 8, .inl (cI, 30, .inl (fun _ => 0))), (am 9, .inl (cI, 30, .inl (fun _ => 0))), (am 10, .inl (cI, 5, .inl (fun _ => 0))), (am 11, .inl (cI, 40, .inl (fun _ => 0))), (am 12, .inl (cI, 40, .inl (fun _ => 0))), (am 13, .inl (cI, 40, .inl (fun _ => 0))), (am 14, .inl (cI, 40, .inl (fun _ => 0))), (am 16, .inl (cI, 60, .inl (fun _ => 0))), (am 17, .inl (cZ, 5, .inl (fun _ => 0))), (am 19, .inl (cI, 5, .inl (fun _ => 0))), (am 20, .inl (cI, 5, .inl (fun _ => 0))), (am 21, .inl (cI, 5, .inl (fun _ => 0))), (am 23, .inl (cZ, 3, .inl (fun _ => 0))), (am 25, .inl (cI, 5, .inl (fun _ => 0)))] := hD
      refine W.widen (k := 0) (n := 0) (by decide) (by decide) ?_
      refine lv_aload_n hx hb dX9_keep_28 rfl (lv_at hl 0 rfl) ?_
      refine lv_iconst (v := 0) hx hb dX9_keep_29 (by decide) ?_
      refine lv_iconst (v := 1) hx hb dX9_keep_30 (by decide) ?_
      refine lv_iload_n hx hb dX9_keep_31 rfl (lv_at hl 1 rfl) ?_
      refine lv_iadd hx hb dX9_keep_32 ?_
      refine z_topi (y := 2) (by decide +kernel) ?_
      refine z_finv (w' := fun (u19 : Unit) => [(am 0, .inr (9, mf0 am)), (am 6, .inl (cI, 5, .inl (fun _ => 0))), (am 7, .inl (cI, 5, .inl (fun _ => 0))), (am 8, .inl (cI, 30, .inl (fun _ => 0))), (am 9, .inl (cI, 30, .inl (fun _ => 0))), (am 10, .inl (cI, 5, .inl (fun _ => 0))), (am 11, .inl (cI, 40, .inl (fun _ => 0))), (am 12, .inl (cI, 40, .inl (fun _ => 0))), (am 13, .inl (cI, 40, .inl (fun _ => 0))), (am 14, .inl (cI, 40, .inl (fun _ => 0))), (am 16, .inl (cI, 60, .inl (fun _ => 0))), (am 17, .inl (cZ, 5, .inl (fun _ => 0))), (am 19, .inl (cI, 5, .inl (fun _ => 0))), (am 20, .inl (cI, 5, .inl (fun _ => 0))), (am 21, .inl (cI, 5, .inl (fun _ => 0))), (am 23, .inl (cZ, 3, .inl (fun _ => 0))), (am 25, .inl (cI, 5, .inl (fun _ => 0)))]) (va_runV (As := [.int 0, .int 2]) (rest := []) ⟨hx, hb, hml, hown, hts⟩ (c_X9_copySheets_254 l dC dI cB cI cJ cZ cP cQ am H.size) (cwV 2 hts gX9_keep_X9_copySheets rfl rfl rfl (by decide +kernel) ⟨Nat.le_of_ble_eq_true rfl, Nat.le_of_ble_eq_true rfl⟩) (z_pV (ci := 9) hK hP hD zX_nil [0, 16] (by decide) rfl rfl 0 rfl) rfl rfl hl.1 rfl (lv_room (Nat.le_of_ble_eq_true rfl)) dX9_keep_33 ⟨Nat.le_of_ble_eq_true rfl, Nat.le_of_ble_eq_true rfl⟩) hP hD hS hA [0, 16] [1, 2, 3, 4, 5, 6, 7, 8, 9, 10, 11, 12, 13, 14, 15] [15, 0, 1, 2, 3, 4, 5, 6, 7, 8, 9, 10, 11, 12, 13, 14, 16] rfl rfl (by decide) (by decide) (fun _ => rfl) (by decide) (fun u19 H locs hp21 hP hD hS => ?_)
      have hP : va_P (dC, dI) vwCl [(am 0, .inr (9, mf0 am)), (am 6, .inl (cI, 5, .inl (fun _ => 0))), (am 7, .inl (cI, 5, .inl (fun _ => 0))), (am 8, .inl (cI, 30, .inl (fun _ => 0))), (am 9, .inl (cI, 30, .inl (fun _ => 0))), (am 10, .inl (cI, 5, .inl (fun _ => 0))), (am 11, .inl (cI, 40, .inl (fun _ => 0))), (am 12, .inl (cI, 40, .inl (fun _ => 0))), (am 13, .inl (cI, 40, .inl (fun _ => 0))), (am 14, .inl (cI, 40, .inl (fun _ => 0))), (am 16, .inl (cI, 60, .inl (fun _ => 0))), (am 17, .inl (cZ, 5, .inl (fun _ => 0))), (am 19, .inl (cI, 5, .inl (fun _ => 0))), (am 20, .inl (cI, 5, .inl (fun _ => 0))), (am 21, .inl (cI, 5, .inl (fun _ => 0))), (am 23, .inl (cZ, 3, .inl (fun _ => 0))), (am 25, .inl (cI, 5, .inl (fun _ => 0)))] H := hP
      have hD : va_D A [(am 0, .inr (9, mf0 am)), (am 6, .inl (cI, 5, .inl (fun _ => 0))), (am 7, .inl (cI, 5, .inl (fun _ => 0))), (am 8, .inl (cI, 30, .inl (fun _ => 0))), (am 9, .inl (cI, 30, .inl (fun _ => 0))), (am 10, .inl (cI, 5, .inl (fun _ => 0))), (am 11, .inl (cI, 40, .inl (fun _ => 0))), (am 12, .inl (cI, 40, .inl (fun _ => 0))), (am 13, .inl (cI, 40, .inl (fun _ => 0))), (am 14, .inl (cI, 40, .inl (fun _ => 0))), (am 16, .inl (cI, 60, .inl (fun _ => 0))), (am 17, .inl (cZ, 5, .inl (fun _ => 0))), (am 19, .inl (cI, 5, .inl (fun _ => 0))), (am 20, .inl (cI, 5, .inl (fun _ => 0))), (am 21, .inl (cI, 5, .inl (fun _ => 0))), (am 23, .inl (cZ, 3, .inl (fun _ => 0))), (am 25, .inl (cI, 5, .inl (fun _ => 0)))] := hD
      refine W.widen (k := 0) (n := 0) (by decide) (by decide) ?_
      refine lv_aload_n hx hb dX9_keep_36 rfl (lv_at hl 0 rfl) ?_
      refine va_get (D := (dC, dI)) (ci := 9) (v := .ref (am 23)) (C := RX9) (T := TX9) (N := 60) hx hb hts hi9 hown hK hP 0 rfl rfl 33 (by decide) hk2 (fun _ h9 => h9) rfl dX9_keep_37 ?_
      refine lv_iload_n hx hb dX9_keep_40 rfl (lv_at hl 1 rfl) ?_
      refine lv_iconst (v := 1) hx hb dX9_keep_41 (by decide) ?_
      refine va_zast hx hb hK hP hD hS 15 3 rfl rfl (z_in (a := 1) (by decide) (by decide) (by decide)) dX9_keep_42 (fun H locs hP hD hS => ?_)
      have hP : va_P (dC, dI) vwCl [(am 0, .inr (9, mf0 am)), (am 6, .inl (cI, 5, .inl (fun _ => 0))), (am 7, .inl (cI, 5, .inl (fun _ => 0))), (am 8, .inl (cI, 30, .inl (fun _ => 0))), (am 9, .inl (cI, 30, .inl (fun _ => 0))), (am 10, .inl (cI, 5, .inl (fun _ => 0))), (am 11, .inl (cI, 40, .inl (fun _ => 0))), (am 12, .inl (cI, 40, .inl (fun _ => 0))), (am 13, .inl (cI, 40, .inl (fun _ => 0))), (am 14, .inl (cI, 40, .inl (fun _ => 0))), (am 16, .inl (cI, 60, .inl (fun _ => 0))), (am 17, .inl (cZ, 5, .inl (fun _ => 0))), (am 19, .inl (cI, 5, .inl (fun _ => 0))), (am 20, .inl (cI, 5, .inl (fun _ => 0))), (am 21, .inl (cI, 5, .inl (fun _ => 0))), (am 23, .inl (cZ, 3, .inl (upd (fun _ => 0) (Int32.toNatClampNeg 1) (vp_nar .boolean 1)))), (am 25, .inl (cI, 5, .inl (fun _ => 0)))] H := hP
      have hD : va_D A [(am 0, .inr (9, mf0 am)), (am 6, .inl (cI, 5, .inl (fun _ => 0))), (am 7, .inl (cI, 5, .inl (fun _ => 0))), (am 8, .inl (cI, 30, .inl (fun _ => 0))), (am 9, .inl (cI, 30, .inl (fun _ => 0))), (am 10, .inl (cI, 5, .inl (fun _ => 0))), (am 11, .inl (cI, 40, .inl (fun _ => 0))), (am 12, .inl (cI, 40, .inl (fun _ => 0))), (am 13, .inl (cI, 40, .inl (fun _ => 0))), (am 14, .inl (cI, 40, .inl (fun _ => 0))), (am 16, .inl (cI, 60, .inl (fun _ => 0))), (am 17, .inl (cZ, 5, .inl (fun _ => 0))), (am 19, .inl (cI, 5, .inl (fun _ => 0))), (am 20, .inl (cI, 5, .inl (fun _ => 0))), (am 21, .inl (cI, 5, .inl (fun _ => 0))), (am 23, .inl (cZ, 3, .inl (upd (fun _ => 0) (Int32.toNatClampNeg 1) (vp_nar .boolean 1)))), (am 25, .inl (cI, 5, .inl (fun _ => 0)))] := hD
      obtain ⟨gg22, hgg22⟩ : ∃ g : Nat → Int32, g = upd (fun _ => 0) (Int32.toNatClampNeg 1) (vp_nar .boolean 1) := ⟨_, rfl⟩
      rw [← hgg22] at hP hD
      refine lv_iconst (v := 0) hx hb dX9_keep_43 (by decide) ?_
      have hP9 := hP.sub (ws' := []) [] rfl
      have hD9 := hD.sub (ws' := []) [] (by decide) rfl
      exact z_iret () hx hb hr hlocks hK hP9 hD9 hS hAe hQ rfl (Or.inr (Or.inr ⟨rfl, f7, f8⟩)) dX9_keep_44
    · have hP : va_P (dC, dI) vwCl [(am 0, .inr (9, mf0 am)), (am 6, .inl (cI, 5, .inl (fun _ => 0))), (am 7, .inl (cI, 5, .inl (fun _ => 0))), (am 8, .inl (cI, 30, .inl (fun _ => 0))), (am 9, .inl (cI, 30, .inl (fun _ => 0))), (am 10, .inl (cI, 5, .inl (fun _ => 0))), (am 11, .inl (cI, 40, .inl (fun _ => 0))), (am 12, .inl (cI, 40, .inl (fun _ => 0))), (am 13, .inl (cI, 40, .inl (fun _ => 0))), (am 14, .inl (cI, 40, .inl (fun _ => 0))), (am 16, .inl (cI, 60, .inl (fun _ => 0))), (am 17, .inl (cZ, 5, .inl (fun _ => 0))), (am 19, .inl (cI, 5, .inl (fun _ => 0))), (am 20, .inl (cI, 5, .inl (fun _ => 0))), (am 21, .inl (cI, 5, .inl (fun _ => 0))), (am 23, .inl (cZ, 3, .inl (fun _ => 0))), (am 25, .inl (cI, 5, .inl (fun _ => 0)))] H := by assumption
      have hD : va_D A [(am 0, .inr (9, mf0 am)), (am 6, .inl (cI, 5, .inl (fun _ => 0))), (am 7, .inl (cI, 5, .inl (fun _ => 0))), (am 8, .inl (cI, 30, .inl (fun _ => 0))), (am 9, .inl (cI, 30, .inl (fun _ => 0))), (am 10, .inl (cI, 5, .inl (fun _ => 0))), (am 11, .inl (cI, 40, .inl (fun _ => 0))), (am 12, .inl (cI, 40, .inl (fun _ => 0))), (am 13, .inl (cI, 40, .inl (fun _ => 0))), (am 14, .inl (cI, 40, .inl (fun _ => 0))), (am 16, .inl (cI, 60, .inl (fun _ => 0))), (am 17, .inl (cZ, 5, .inl (fun _ => 0))), (am 19, .inl (cI, 5, .inl (fun _ => 0))), (am 20, .inl (cI, 5, .inl (fun _ => 0))), (am 21, .inl (cI, 5, .inl (fun _ => 0))), (am 23, .inl (cZ, 3, .inl (fun _ => 0))), (am 25, .inl (cI, 5, .inl (fun _ => 0)))] := by assumption
      refine lv_aload_n hx hb dX9_keep_20 rfl (lv_at hl 0 rfl) ?_
      refine lv_iconst (v := 0) hx hb dX9_keep_21 (by decide) ?_
      refine lv_iconst (v := 1) hx hb dX9_keep_22 (by decide) ?_
      refine lv_iload_n hx hb dX9_keep_23 rfl (lv_at hl 1 rfl) ?_
      refine lv_iadd hx hb dX9_keep_24 ?_
      refine z_topi (y := 3) (by decide +kernel) ?_
      refine z_finv (w' := fun (u23 : Unit) => [(am 0, .inr (9, mf0 am)), (am 6, .inl (cI, 5, .inl (fun _ => 0))), (am 7, .inl (cI, 5, .inl (fun _ => 0))), (am 8, .inl (cI, 30, .inl (fun _ => 0))), (am 9, .inl (cI, 30, .inl (fun _ => 0))), (am 10, .inl (cI, 5, .inl (fun _ => 0))), (am 11, .inl (cI, 40, .inl (fun _ => 0))), (am 12, .inl (cI, 40, .inl (fun _ => 0))), (am 13, .inl (cI, 40, .inl (fun _ => 0))), (am 14, .inl (cI, 40, .inl (fun _ => 0))), (am 16, .inl (cI, 60, .inl (fun _ => 0))), (am 17, .inl (cZ, 5, .inl (fun _ => 0))), (am 19, .inl (cI, 5, .inl (fun _ => 0))), (am 20, .inl (cI, 5, .inl (fun _ => 0))), (am 21, .inl (cI, 5, .inl (fun _ => 0))), (am 23, .inl (cZ, 3, .inl (fun _ => 0))), (am 25, .inl (cI, 5, .inl (fun _ => 0)))]) (va_runV (As := [.int 0, .int 3]) (rest := []) ⟨hx, hb, hml, hown, hts⟩ (c_X9_copyLand_255 l dC dI cB cI cJ cZ cP cQ am H.size) (cwV 2 hts gX9_keep_X9_copyLand rfl rfl rfl (by decide +kernel) ⟨Nat.le_of_ble_eq_true rfl, Nat.le_of_ble_eq_true rfl⟩) (z_pV (ci := 9) hK hP hD zX_nil [0, 1, 2, 3, 4, 5, 6, 7, 8, 9, 10, 11, 12, 13, 14] (by decide) rfl rfl 0 rfl) rfl rfl hl.1 rfl (lv_room (Nat.le_of_ble_eq_true rfl)) dX9_keep_25 ⟨Nat.le_of_ble_eq_true rfl, Nat.le_of_ble_eq_true rfl⟩) hP hD hS hA [0, 1, 2, 3, 4, 5, 6, 7, 8, 9, 10, 11, 12, 13, 14] [15, 16] [2, 3, 4, 5, 6, 7, 8, 9, 10, 11, 12, 13, 14, 15, 16, 0, 1] rfl rfl (by decide) (by decide) (fun _ => rfl) (by decide) (fun u23 H locs hp25 hP hD hS => ?_)
      have hP : va_P (dC, dI) vwCl [(am 0, .inr (9, mf0 am)), (am 6, .inl (cI, 5, .inl (fun _ => 0))), (am 7, .inl (cI, 5, .inl (fun _ => 0))), (am 8, .inl (cI, 30, .inl (fun _ => 0))), (am 9, .inl (cI, 30, .inl (fun _ => 0))), (am 10, .inl (cI, 5, .inl (fun _ => 0))), (am 11, .inl (cI, 40, .inl (fun _ => 0))), (am 12, .inl (cI, 40, .inl (fun _ => 0))), (am 13, .inl (cI, 40, .inl (fun _ => 0))), (am 14, .inl (cI, 40, .inl (fun _ => 0))), (am 16, .inl (cI, 60, .inl (fun _ => 0))), (am 17, .inl (cZ, 5, .inl (fun _ => 0))), (am 19, .inl (cI, 5, .inl (fun _ => 0))), (am 20, .inl (cI, 5, .inl (fun _ => 0))), (am 21, .inl (cI, 5, .inl (fun _ => 0))), (am 23, .inl (cZ, 3, .inl (fun _ => 0))), (am 25, .inl (cI, 5, .inl (fun _ => 0)))] H := hP
      have hD : va_D A [(am 0, .inr (9, mf0 am)), (am 6, .inl (cI, 5, .inl (fun _ => 0))), (am 7, .inl (cI, 5, .inl (fun _ => 0))), (am 8, .inl (cI, 30, .inl (fun _ => 0))), (am 9, .inl (cI, 30, .inl (fun _ => 0))), (am 10, .inl (cI, 5, .inl (fun _ => 0))), (am 11, .inl (cI, 40, .inl (fun _ => 0))), (am 12, .inl (cI, 40, .inl (fun _ => 0))), (am 13, .inl (cI, 40, .inl (fun _ => 0))), (am 14, .inl (cI, 40, .inl (fun _ => 0))), (am 16, .inl (cI, 60, .inl (fun _ => 0))), (am 17, .inl (cZ, 5, .inl (fun _ => 0))), (am 19, .inl (cI, 5, .inl (fun _ => 0))), (am 20, .inl (cI, 5, .inl (fun _ => 0))), (am 21, .inl (cI, 5, .inl (fun _ => 0))), (am 23, .inl (cZ, 3, .inl (fun _ => 0))), (am 25, .inl (cI, 5, .inl (fun _ => 0)))] := hD
      refine W.widen (k := 0) (n := 0) (by decide) (by decide) ?_
      refine lv_aload_n hx hb dX9_keep_28 rfl (lv_at hl 0 rfl) ?_
      refine lv_iconst (v := 0) hx hb dX9_keep_29 (by decide) ?_
      refine lv_iconst (v := 1) hx hb dX9_keep_30 (by decide) ?_
      refine lv_iload_n hx hb dX9_keep_31 rfl (lv_at hl 1 rfl) ?_
      refine lv_iadd hx hb dX9_keep_32 ?_
      refine z_topi (y := 3) (by decide +kernel) ?_
      refine z_finv (w' := fun (u26 : Unit) => [(am 0, .inr (9, mf0 am)), (am 6, .inl (cI, 5, .inl (fun _ => 0))), (am 7, .inl (cI, 5, .inl (fun _ => 0))), (am 8, .inl (cI, 30, .inl (fun _ => 0))), (am 9, .inl (cI, 30, .inl (fun _ => 0))), (am 10, .inl (cI, 5, .inl (fun _ => 0))), (am 11, .inl (cI, 40, .inl (fun _ => 0))), (am 12, .inl (cI, 40, .inl (fun _ => 0))), (am 13, .inl (cI, 40, .inl (fun _ => 0))), (am 14, .inl (cI, 40, .inl (fun _ => 0))), (am 16, .inl (cI, 60, .inl (fun _ => 0))), (am 17, .inl (cZ, 5, .inl (fun _ => 0))), (am 19, .inl (cI, 5, .inl (fun _ => 0))), (am 20, .inl (cI, 5, .inl (fun _ => 0))), (am 21, .inl (cI, 5, .inl (fun _ => 0))), (am 23, .inl (cZ, 3, .inl (fun _ => 0))), (am 25, .inl (cI, 5, .inl (fun _ => 0)))]) (va_runV (As := [.int 0, .int 3]) (rest := []) ⟨hx, hb, hml, hown, hts⟩ (c_X9_copySheets_256 l dC dI cB cI cJ cZ cP cQ am H.size) (cwV 2 hts gX9_keep_X9_copySheets rfl rfl rfl (by decide +kernel) ⟨Nat.le_of_ble_eq_true rfl, Nat.le_of_ble_eq_true rfl⟩) (z_pV (ci := 9) hK hP hD zX_nil [0, 16] (by decide) rfl rfl 0 rfl) rfl rfl hl.1 rfl (lv_room (Nat.le_of_ble_eq_true rfl)) dX9_keep_33 ⟨Nat.le_of_ble_eq_true rfl, Nat.le_of_ble_eq_true rfl⟩) hP hD hS hA [0, 16] [1, 2, 3, 4, 5, 6, 7, 8, 9, 10, 11, 12, 13, 14, 15] [15, 0, 1, 2, 3, 4, 5, 6, 7, 8, 9, 10, 11, 12, 13, 14, 16] rfl rfl (by decide) (by decide) (fun _ => rfl) (by decide) (fun u26 H locs hp28 hP hD hS => ?_)
      have hP : va_P (dC, dI) vwCl [(am 0, .inr (9, mf0 am)), (am 6, .inl (cI, 5, .inl (fun _ => 0))), (am 7, .inl (cI, 5, .inl (fun _ => 0))), (am 8, .inl (cI, 30, .inl (fun _ => 0))), (am 9, .inl (cI, 30, .inl (fun _ => 0))), (am 10, .inl (cI, 5, .inl (fun _ => 0))), (am 11, .inl (cI, 40, .inl (fun _ => 0))), (am 12, .inl (cI, 40, .inl (fun _ => 0))), (am 13, .inl (cI, 40, .inl (fun _ => 0))), (am 14, .inl (cI, 40, .inl (fun _ => 0))), (am 16, .inl (cI, 60, .inl (fun _ => 0))), (am 17, .inl (cZ, 5, .inl (fun _ => 0))), (am 19, .inl (cI, 5, .inl (fun _ => 0))), (am 20, .inl (cI, 5, .inl (fun _ => 0))), (am 21, .inl (cI, 5, .inl (fun _ => 0))), (am 23, .inl (cZ, 3, .inl (fun _ => 0))), (am 25, .inl (cI, 5, .inl (fun _ => 0)))] H := hP
      have hD : va_D A [(am 0, .inr (9, mf0 am)), (am 6, .inl (cI, 5, .inl (fun _ => 0))), (am 7, .inl (cI, 5, .inl (fun _ => 0))), (am 8, .inl (cI, 30, .inl (fun _ => 0))), (am 9, .inl (cI, 30, .inl (fun _ => 0))), (am 10, .inl (cI, 5, .inl (fun _ => 0))), (am 11, .inl (cI, 40, .inl (fun _ => 0))), (am 12, .inl (cI, 40, .inl (fun _ => 0))), (am 13, .inl (cI, 40, .inl (fun _ => 0))), (am 14, .inl (cI, 40, .inl (fun _ => 0))), (am 16, .inl (cI, 60, .inl (fun _ => 0))), (am 17, .inl (cZ, 5, .inl (fun _ => 0))), (am 19, .inl (cI, 5, .inl (fun _ => 0))), (am 20, .inl (cI, 5, .inl (fun _ => 0))), (am 21, .inl (cI, 5, .inl (fun _ => 0))), (am 23, .inl (cZ, 3, .inl (fun _ => 0))), (am 25, .inl (cI, 5, .inl (fun _ => 0)))] := hD
      refine W.widen (k := 0) (n := 0) (by decide) (by decide) ?_
      refine lv_aload_n hx hb dX9_keep_36 rfl (lv_at hl 0 rfl) ?_
      refine va_get (D := (dC, dI)) (ci := 9) (v := .ref (am 23)) (C := RX9) (T := TX9) (N := 60) hx hb hts hi9 hown hK hP 0 rfl rfl 33 (by decide) hk2 (fun _ h9 => h9) rfl dX9_keep_37 ?_
      refine lv_iload_n hx hb dX9_keep_40 rfl (lv_at hl 1 rfl) ?_
      refine lv_iconst (v := 1) hx hb dX9_keep_41 (by decide) ?_
      refine va_zast hx hb hK hP hD hS 15 3 rfl rfl (z_in (a := 2) (by decide) (by decide) (by decide)) dX9_keep_42 (fun H locs hP hD hS => ?_)
      have hP : va_P (dC, dI) vwCl [(am 0, .inr (9, mf0 am)), (am 6, .inl (cI, 5, .inl (fun _ => 0))), (am 7, .inl (cI, 5, .inl (fun _ => 0))), (am 8, .inl (cI, 30, .inl (fun _ => 0))), (am 9, .inl (cI, 30, .inl (fun _ => 0))), (am 10, .inl (cI, 5, .inl (fun _ => 0))), (am 11, .inl (cI, 40, .inl (fun _ => 0))), (am 12, .inl (cI, 40, .inl (fun _ => 0))), (am 13, .inl (cI, 40, .inl (fun _ => 0))), (am 14, .inl (cI, 40, .inl (fun _ => 0))), (am 16, .inl (cI, 60, .inl (fun _ => 0))), (am 17, .inl (cZ, 5, .inl (fun _ => 0))), (am 19, .inl (cI, 5, .inl (fun _ => 0))), (am 20, .inl (cI, 5, .inl (fun _ => 0))), (am 21, .inl (cI, 5, .inl (fun _ => 0))), (am 23, .inl (cZ, 3, .inl (upd (fun _ => 0) (Int32.toNatClampNeg 2) (vp_nar .boolean 1)))), (am 25, .inl (cI, 5, .inl (fun _ => 0)))] H := hP
      have hD : va_D A [(am 0, .inr (9, mf0 am)), (am 6, .inl (cI, 5, .inl (fun _ => 0))), (am 7, .inl (cI, 5, .inl (fun _ => 0))), (am 8, .inl (cI, 30, .inl (fun _ => 0))), (am 9, .inl (cI, 30, .inl (fun _ => 0))), (am 10, .inl (cI, 5, .inl (fun _ => 0))), (am 11, .inl (cI, 40, .inl (fun _ => 0))), (am 12, .inl (cI, 40, .inl (fun _ => 0))), (am 13, .inl (cI, 40, .inl (fun _ => 0))), (am 14, .inl (cI, 40, .inl (fun _ => 0))), (am 16, .inl (cI, 60, .inl (fun _ => 0))), (am 17, .inl (cZ, 5, .inl (fun _ => 0))), (am 19, .inl (cI, 5, .inl (fun _ => 0))), (am 20, .inl (cI, 5, .inl (fun _ => 0))), (am 21, .inl (cI, 5, .inl (fun _ => 0))), (am 23, .inl (cZ, 3, .inl (upd (fun _ => 0) (Int32.toNatClampNeg 2) (vp_nar .boolean 1)))), (am 25, .inl (cI, 5, .inl (fun _ => 0)))] := hD
      obtain ⟨gg29, hgg29⟩ : ∃ g : Nat → Int32, g = upd (fun _ => 0) (Int32.toNatClampNeg 2) (vp_nar .boolean 1) := ⟨_, rfl⟩
      rw [← hgg29] at hP hD
      refine lv_iconst (v := 0) hx hb dX9_keep_43 (by decide) ?_
      have hP9 := hP.sub (ws' := []) [] rfl
      have hD9 := hD.sub (ws' := []) [] (by decide) rfl
      exact z_iret () hx hb hr hlocks hK hP9 hD9 hS hAe hQ rfl (Or.inr (Or.inr ⟨rfl, f7, f8⟩)) dX9_keep_44
set_option maxHeartbeats 4000000 in
set_option maxRecDepth 100000 in
theorem c_X9_back_257 (l : Launch) (dC : Nat → ClassId) (dI : Nat → Nat → Nat) (cB cI cJ cZ cP cQ : ClassId) (am : Nat → Nat) (sz : Nat) (p1 : Int32) : Met l yX9_back wsX9_back ({ frames := 1, cells := 0, slots := 0, locals := 25 } : Room) (zPc [.ref (am 0), .int p1] (dC, dI) (zT cB cI cJ cZ cP cQ) [(am 0, .inr (9, mf0 am)), (am 23, .inl (cZ, 3, .inl (fun _ => 0)))] sz [] []) (va_Qi (fun r _ => (fun r => (r = (-2) ∧ p1.toInt < 0) ∨ (r = (-2) ∧ 0 ≤ p1.toInt ∧ 2 < p1.toInt) ∨ (r = (-6) ∧ 0 ≤ p1.toInt ∧ p1.toInt ≤ 2)) r) (zB (dC, dI) (zT cB cI cJ cZ cP cQ) (fun _ : Unit => []) [(am 0, .inr (9, mf0 am)), (am 23, .inl (cZ, 3, .inl (fun _ => 0)))] sz) (va_A [(am 0, .inr (9, mf0 am)), (am 23, .inl (cZ, 3, .inl (fun _ => 0)))] sz)) 0 0 (va_A [(am 0, .inr (9, mf0 am)), (am 23, .inl (cZ, 3, .inl (fun _ => 0)))] sz) := by
  refine z_enter (cc := cX9_back) (maxL := 2) (ret := (some .int)) (by decide) rfl (Nat.le_of_ble_eq_true rfl) ?_
  intro p e s m below meth c A ls Q H locs hx hb hr hml hown hts hlocks hin hK hP hD hA hX hS hAe hQ hl
  have hown : s.vm.findClass RX9 = some m.cls := hown
  have hi9 : ∀ w ∈ wsX90, w ∈ wsX9_back := fun w h => List.mem_cons_of_mem _ (List.mem_append_right _ h)
  have hk0 := hts (.fieldLink RX9 125 "MonthPushModel" "thrown" "I") (by decide +kernel)
  have hk1 := hts (.constantLong RX9 455 2) (by decide +kernel)
  have hk2 := hts (.fieldLink RX9 83 "MonthPushModel" "isKept" "[Z") (by decide +kernel)
  have hl : lv_has ls 2 [(0, .ref (am 0)), (1, .int p1)] := hl
  refine lv_aload_n hx hb dX9_back_0 rfl (lv_at hl 0 rfl) ?_
  refine lv_iconst (v := 0) hx hb dX9_back_1 (by decide) ?_
  refine z_put0 (D := (dC, dI)) (ci := 9) (v := .int 0) (ty := .int) (C := RX9) (T := TX9) (N := 60) hx hb hts hi9 tyX9 tyX9_ok nmX9 hown hK hP hD hS 0 rfl rfl 0 (by decide) hk0 (fun _ h9 => h9) rfl (by decide +kernel) rfl rfl rfl dX9_back_2 (fun H locs hP hS => ?_)
  refine lv_iload_n hx hb dX9_back_5 rfl (lv_at hl 1 rfl) ?_
  refine lv_i2l hx hb dX9_back_6 rfl ?_
  refine lv_lconst (v := 0) hx hb dX9_back_7 (by decide) ?_
  refine lv_ldc2 hx hb hown hk1 dX9_back_8 ?_
  refine z_fini (w' := fun (u1 : Unit) => [(am 0, .inr (9, mf0 am)), (am 23, .inl (cZ, 3, .inl (fun _ => 0)))]) (va_runS (As := [.long p1.toInt64, .long 0, .long 2]) (rest := []) ⟨hx, hb, hml, hown, hts⟩ (c_X9_in_222 l dC dI cB cI cJ cZ cP cQ H.size p1) (va_cwS 3 hts gX9_back_X9_in rfl rfl rfl (by decide +kernel) ⟨Nat.le_of_ble_eq_true rfl, Nat.le_of_ble_eq_true rfl⟩) (z_pS hK hP hD zX_nil [] (by decide) rfl) rfl rfl hl.1 rfl (lv_room (Nat.le_of_ble_eq_true rfl)) dX9_back_11 ⟨Nat.le_of_ble_eq_true rfl, Nat.le_of_ble_eq_true rfl⟩) hP hD hS hA [] [0, 1] [0, 1] rfl rfl (by decide) (by decide) (fun _ => rfl) (by decide) (fun r2 u1 H locs hp3 hP hD hS => ?_)
  have hP : va_P (dC, dI) vwCl [(am 0, .inr (9, mf0 am)), (am 23, .inl (cZ, 3, .inl (fun _ => 0)))] H := hP
  have hD : va_D A [(am 0, .inr (9, mf0 am)), (am 23, .inl (cZ, 3, .inl (fun _ => 0)))] := hD
  refine W.widen (k := 0) (n := 0) (by decide) (by decide) ?_
  rcases hp3 with ⟨rfl, f4⟩ | ⟨rfl, f5, f6⟩ | ⟨rfl, f7, f8⟩
  · refine lv_if_ne (tgt := 20) hx hb dX9_back_14 (by decide) (fun c => absurd (by decide) c) (fun _ => ?_)
    refine lv_bipush (v := (-2)) hx hb dX9_back_17 (by decide) ?_
    have hP9 := hP.sub (ws' := []) [] rfl
    have hD9 := hD.sub (ws' := []) [] (by decide) rfl
    exact z_iret () hx hb hr hlocks hK hP9 hD9 hS hAe hQ rfl (Or.inl (⟨rfl, f4⟩)) dX9_back_19
  · refine lv_if_ne (tgt := 20) hx hb dX9_back_14 (by decide) (fun c => absurd (by decide) c) (fun _ => ?_)
    refine lv_bipush (v := (-2)) hx hb dX9_back_17 (by decide) ?_
    have hP9 := hP.sub (ws' := []) [] rfl
    have hD9 := hD.sub (ws' := []) [] (by decide) rfl
    exact z_iret () hx hb hr hlocks hK hP9 hD9 hS hAe hQ rfl (Or.inr (Or.inl ⟨rfl, f5, f6⟩)) dX9_back_19
  · refine lv_if_ne (tgt := 20) hx hb dX9_back_14 (by decide) (fun _ => ?_) (fun c => absurd c (by decide))
    refine lv_aload_n hx hb dX9_back_20 rfl (lv_at hl 0 rfl) ?_
    refine va_get (D := (dC, dI)) (ci := 9) (v := .ref (am 23)) (C := RX9) (T := TX9) (N := 60) hx hb hts hi9 hown hK hP 0 rfl rfl 33 (by decide) hk2 (fun _ h9 => h9) rfl dX9_back_21 ?_
    refine lv_iload_n hx hb dX9_back_24 rfl (lv_at hl 1 rfl) ?_
    refine va_zald hx hb hK hP 1 3 rfl rfl (z_in rfl (by omega) (by omega)) dX9_back_25 ?_
    refine z_topi (y := 0) rfl ?_
    refine lv_if_ne (tgt := 32) hx hb dX9_back_26 (by decide) (fun c => absurd (by decide) c) (fun _ => ?_)
    refine lv_bipush (v := (-6)) hx hb dX9_back_29 (by decide) ?_
    have hP9 := hP.sub (ws' := []) [] rfl
    have hD9 := hD.sub (ws' := []) [] (by decide) rfl
    exact z_iret () hx hb hr hlocks hK hP9 hD9 hS hAe hQ rfl (Or.inr (Or.inr ⟨rfl, f7, f8⟩)) dX9_back_31
