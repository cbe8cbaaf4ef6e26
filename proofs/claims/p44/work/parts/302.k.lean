set_option maxHeartbeats 8000000 in
set_option maxRecDepth 100000 in
theorem k_X6_take (l : Launch) (dC : Nat → ClassId) (dI : Nat → Nat → Nat) (cB cI cJ cZ cP cQ : ClassId) (h0 : Nat) (h1 : Nat) (h1_state : Nat) (h1_month : Nat) (h1_school : Nat) (h1_wage : Nat) (h1_gift : Nat) (h1_wish : Nat) (sz : Nat) (p2 : Int32) (p3 : Int32) (h0_n : Int64) (h0_school : Int64) (h0_wage : Int64) (h0_gift : Int64) (h0_others : Int64) (h0_otherSchool : Int64) (h0_otherWage : Int64) (h0_otherGift : Int64) (h0_schoolSchool : Int64) (h0_schoolWage : Int64) (h0_wageWage : Int64) (h1_n : Int32) (h1_school_f : Nat → Int32) (h1_wage_f : Nat → Int32) (h1_gift_f : Nat → Int32) (e0 : 0 ≤ h0_n.toInt) (e1 : 0 ≤ h0_others.toInt) (e2 : h0_n.toInt ≤ 200) (e3 : h0_others.toInt ≤ 200) (e4 : h0_n.toInt + h0_others.toInt ≤ 200) (e5 : 0 ≤ h0_school.toInt) (e6 : h0_school.toInt ≤ 300 * h0_n.toInt) (e7 : 0 ≤ h0_otherSchool.toInt) (e8 : h0_otherSchool.toInt ≤ 300 * h0_others.toInt) (e9 : 0 ≤ h0_schoolSchool.toInt) (e10 : h0_schoolSchool.toInt ≤ 90000 * (h0_n.toInt + h0_others.toInt)) (e11 : 0 ≤ h1_n.toInt) (e12 : h1_n.toInt ≤ 200) (z_h1_school : zR 0 300 h1_school_f) (e14 : 0 ≤ p3.toInt) (e15 : p3.toInt ≤ 1) (e16 : 0 ≤ p2.toInt) (e17 : p2.toInt ≤ 199) (e18 : h0_n.toInt + h0_others.toInt ≤ 199) : Met l yX6_take wsX6_take ({ frames := 0, cells := 0, slots := 0, locals := 0 } : Room) (zPc [.ref h0, .ref h1, .int p2, .int p3] (dC, dI) (zT cB cI cJ cZ cP cQ) [(h0, .inr (6, [.long h0_n, .long h0_school, .long h0_wage, .long h0_gift, .long h0_others, .long h0_otherSchool, .long h0_otherWage, .long h0_otherGift, .long h0_schoolSchool, .long h0_schoolWage, .long h0_wageWage])), (h1, .inr (5, [.int h1_n, .ref h1_state, .ref h1_month, .ref h1_school, .ref h1_wage, .ref h1_gift, .ref h1_wish])), (h1_school, .inl (cI, 200, .inl h1_school_f)), (h1_wage, .inl (cI, 200, .inl h1_wage_f)), (h1_gift, .inl (cI, 200, .inl h1_gift_f))] sz [] []) (va_Qv (fun (u : Int64 × Int64 × Int64 × Int64 × Int64 × Int64 × Int64 × Int64 × Int64 × Int64 × Int64) => 0 ≤ u.1.toInt ∧ 0 ≤ u.2.2.2.2.1.toInt ∧ u.1.toInt ≤ 200 ∧ u.2.2.2.2.1.toInt ≤ 200 ∧ u.1.toInt + u.2.2.2.2.1.toInt ≤ 200 ∧ 0 ≤ u.2.1.toInt ∧ u.2.1.toInt ≤ 300 * u.1.toInt ∧ 0 ≤ u.2.2.2.2.2.1.toInt ∧ u.2.2.2.2.2.1.toInt ≤ 300 * u.2.2.2.2.1.toInt ∧ 0 ≤ u.2.2.2.2.2.2.2.2.1.toInt ∧ u.2.2.2.2.2.2.2.2.1.toInt ≤ 90000 * (u.1.toInt + u.2.2.2.2.1.toInt) ∧ u.1.toInt + u.2.2.2.2.1.toInt = h0_n.toInt + h0_others.toInt + 1) (zB (dC, dI) (zT cB cI cJ cZ cP cQ) (fun u : Int64 × Int64 × Int64 × Int64 × Int64 × Int64 × Int64 × Int64 × Int64 × Int64 × Int64 => [(h0, .inr (6, [.long u.1, .long u.2.1, .long u.2.2.1, .long u.2.2.2.1, .long u.2.2.2.2.1, .long u.2.2.2.2.2.1, .long u.2.2.2.2.2.2.1, .long u.2.2.2.2.2.2.2.1, .long u.2.2.2.2.2.2.2.2.1, .long u.2.2.2.2.2.2.2.2.2.1, .long u.2.2.2.2.2.2.2.2.2.2])), (h1, .inr (5, [.int h1_n, .ref h1_state, .ref h1_month, .ref h1_school, .ref h1_wage, .ref h1_gift, .ref h1_wish])), (h1_school, .inl (cI, 200, .inl h1_school_f)), (h1_wage, .inl (cI, 200, .inl h1_wage_f)), (h1_gift, .inl (cI, 200, .inl h1_gift_f))]) [(h0, .inr (6, [.long h0_n, .long h0_school, .long h0_wage, .long h0_gift, .long h0_others, .long h0_otherSchool, .long h0_otherWage, .long h0_otherGift, .long h0_schoolSchool, .long h0_schoolWage, .long h0_wageWage])), (h1, .inr (5, [.int h1_n, .ref h1_state, .ref h1_month, .ref h1_school, .ref h1_wage, .ref h1_gift, .ref h1_wish])), (h1_school, .inl (cI, 200, .inl h1_school_f)), (h1_wage, .inl (cI, 200, .inl h1_wage_f)), (h1_gift, .inl (cI, 200, .inl h1_gift_f))] sz) (va_A [(h0, .inr (6, [.long h0_n, .long h0_school, .long h0_wage, .long h0_gift, .long h0_others, .long h0_otherSchool, .long h0_otherWage, .long h0_otherGift, .long h0_schoolSchool, .long h0_schoolWage, .long h0_wageWage])), (h1, .inr (5, [.int h1_n, .ref h1_state, .ref h1_month, .ref h1_school, .ref h1_wage, .ref h1_gift, .ref h1_wish])), (h1_school, .inl (cI, 200, .inl h1_school_f)), (h1_wage, .inl (cI, 200, .inl h1_wage_f)), (h1_gift, .inl (cI, 200, .inl h1_gift_f))] sz)) 0 0 (va_A [(h0, .inr (6, [.long h0_n, .long h0_school, .long h0_wage, .long h0_gift, .long h0_others, .long h0_otherSchool, .long h0_otherWage, .long h0_otherGift, .long h0_schoolSchool, .long h0_schoolWage, .long h0_wageWage])), (h1, .inr (5, [.int h1_n, .ref h1_state, .ref h1_month, .ref h1_school, .ref h1_wage, .ref h1_gift, .ref h1_wish])), (h1_school, .inl (cI, 200, .inl h1_school_f)), (h1_wage, .inl (cI, 200, .inl h1_wage_f)), (h1_gift, .inl (cI, 200, .inl h1_gift_f))] sz) := by
  refine z_enter (cc := cX6_take) (maxL := 8) (ret := none) (by decide) rfl (Nat.le_of_ble_eq_true rfl) ?_
  intro p e s m below meth c A ls Q H locs hx hb hr hml hown hts hlocks hin hK hP hD hA hX hS hAe hQ hl
  have hown : s.vm.findClass RX6 = some m.cls := hown
  have hi5 : ∀ w ∈ wsX50, w ∈ wsX6_take := fun w h => List.mem_cons_of_mem _ (List.mem_append_left _ (List.mem_append_right _ h))
  have hi6 : ∀ w ∈ wsX60, w ∈ wsX6_take := fun w h => List.mem_cons_of_mem _ (List.mem_append_right _ h)
  have hk0 := hts (.fieldLink RX6 45 "MonthPush$Sheets" "school" "[I") (List.mem_of_getElem? (i := 1) rfl)
  have hk1 := hts (.fieldLink RX6 50 "MonthPush$Sheets" "wage" "[I") (List.mem_of_getElem? (i := 2) rfl)
  have hk2 := hts (.fieldLink RX6 36 "MonthPush$Split" "schoolSchool" "J") (List.mem_of_getElem? (i := 3) rfl)
  have hk3 := hts (.fieldLink RX6 39 "MonthPush$Split" "schoolWage" "J") (List.mem_of_getElem? (i := 4) rfl)
  have hk4 := hts (.fieldLink RX6 42 "MonthPush$Split" "wageWage" "J") (List.mem_of_getElem? (i := 5) rfl)
  have hk5 := hts (.fieldLink RX6 24 "MonthPush$Split" "others" "J") (List.mem_of_getElem? (i := 11) rfl)
  have hk6 := hts (.fieldLink RX6 27 "MonthPush$Split" "otherSchool" "J") (List.mem_of_getElem? (i := 12) rfl)
  have hk7 := hts (.fieldLink RX6 30 "MonthPush$Split" "otherWage" "J") (List.mem_of_getElem? (i := 13) rfl)
  have hk8 := hts (.fieldLink RX6 33 "MonthPush$Split" "otherGift" "J") (List.mem_of_getElem? (i := 14) rfl)
  have hk9 := hts (.fieldLink RX6 52 "MonthPush$Sheets" "gift" "[I") (List.mem_of_getElem? (i := 10) rfl)
  have hk10 := hts (.fieldLink RX6 9 "MonthPush$Split" "n" "J") (List.mem_of_getElem? (i := 6) rfl)
  have hk11 := hts (.fieldLink RX6 15 "MonthPush$Split" "school" "J") (List.mem_of_getElem? (i := 7) rfl)
  have hk12 := hts (.fieldLink RX6 18 "MonthPush$Split" "wage" "J") (List.mem_of_getElem? (i := 8) rfl)
  have hk13 := hts (.fieldLink RX6 21 "MonthPush$Split" "gift" "J") (List.mem_of_getElem? (i := 9) rfl)
  have hl : lv_has ls 8 [(0, .ref h0), (1, .ref h1), (2, .int p2), (3, .int p3)] := hl
  refine lv_aload_n hx hb dX6_take_0 rfl (lv_at hl 1 rfl) ?_
  refine va_get (D := (dC, dI)) (ci := 5) (v := .ref h1_school) (C := RX5) (T := TX5) (N := 7) hx hb hts hi5 hown hK hP 1 rfl rfl 3 (by decide) hk0 (fun _ h9 => h9) rfl dX6_take_1 ?_
  refine lv_iload_n hx hb dX6_take_4 rfl (lv_at hl 2 rfl) ?_
  refine va_iald hx hb hK hP 2 1 rfl rfl (z_in rfl (by omega) (by omega)) dX6_take_5 ?_
  have f1 : 0 ≤ (h1_school_f p2.toNatClampNeg).toInt ∧ (h1_school_f p2.toNatClampNeg).toInt ≤ 300 := z_h1_school _
  refine lv_i2l hx hb dX6_take_6 rfl ?_
  refine lv_topl (fun r2 h3 => ?_)
  have f4 : r2.toInt = ((h1_school_f p2.toNatClampNeg).toInt) := z_i2lT h3 rfl
  refine lv_lstore (lv' := [(4, .long r2), (0, .ref h0), (1, .ref h1), (2, .int p2), (3, .int p3)]) hx hb dX6_take_7 hl (by decide) rfl (fun ls hl => ?_)
  refine lv_aload_n hx hb dX6_take_9 rfl (lv_at hl 2 rfl) ?_
  refine va_get (D := (dC, dI)) (ci := 5) (v := .ref h1_wage) (C := RX5) (T := TX5) (N := 7) hx hb hts hi5 hown hK hP 1 rfl rfl 4 (by decide) hk1 (fun _ h9 => h9) rfl dX6_take_10 ?_
  refine lv_iload_n hx hb dX6_take_13 rfl (lv_at hl 3 rfl) ?_
  refine va_iald hx hb hK hP 3 1 rfl rfl (z_in rfl (by omega) (by omega)) dX6_take_14 ?_
  refine lv_i2l hx hb dX6_take_15 rfl ?_
  have f5 : -2147483648 ≤ ((h1_wage_f p2.toNatClampNeg).toInt) ∧ ((h1_wage_f p2.toNatClampNeg).toInt) < 2147483648 := z_rngI rfl
  refine lv_topl (fun r6 h7 => ?_)
  have f8 : r6.toInt = ((h1_wage_f p2.toNatClampNeg).toInt) := z_i2lT h7 rfl
  refine lv_lstore (lv' := [(6, .long r6), (4, .long r2), (0, .ref h0), (1, .ref h1), (2, .int p2), (3, .int p3)]) hx hb dX6_take_16 hl (by decide) rfl (fun ls hl => ?_)
  refine lv_aload_n hx hb dX6_take_18 rfl (lv_at hl 2 rfl) ?_
  refine lv_dup hx hb dX6_take_19 rfl ?_
  refine va_get (D := (dC, dI)) (ci := 6) (v := .long h0_schoolSchool) (C := RX6) (T := TX6) (N := 11) hx hb hts hi6 hown hK hP 0 rfl rfl 8 (by decide) hk2 (fun _ h9 => h9) rfl dX6_take_20 ?_
  refine lv_lload hx hb dX6_take_23 (lv_at hl 1 rfl) ?_
  refine lv_lload hx hb dX6_take_25 (lv_at hl 1 rfl) ?_
  refine lv_lmul hx hb dX6_take_27 ?_
  refine lv_topl (fun r9 h10 => ?_)
  have f11 : 0 ≤ r9.toInt ∧ r9.toInt ≤ 90000 := z_lmulB (a := 300) (b := 300) h10 rfl rfl (by omega) (by omega) (by omega) (by omega) (by decide) (by decide)
  refine lv_ladd hx hb dX6_take_28 ?_
  refine lv_topl (fun r12 h13 => ?_)
  have f14 : r12.toInt = h0_schoolSchool.toInt + r9.toInt := z_ladd h13 rfl rfl (by omega) (by omega)
  refine va_put (D := (dC, dI)) (ci := 6) (v := .long r12) (ty := .long) (C := RX6) (T := TX6) (N := 11) hx hb hts hi6 tyX6 tyX6_ok nmX6 hown hK hP hD hS 0 rfl rfl 8 (by decide) hk2 (fun _ h9 => h9) rfl (by decide +kernel) rfl rfl (Nat.le_of_ble_eq_true rfl) dX6_take_29 (fun H locs hP hD hS => ?_)
  have hP : va_P (dC, dI) vwCl [(h0, .inr (6, [.long h0_n, .long h0_school, .long h0_wage, .long h0_gift, .long h0_others, .long h0_otherSchool, .long h0_otherWage, .long h0_otherGift, .long r12, .long h0_schoolWage, .long h0_wageWage])), (h1, .inr (5, [.int h1_n, .ref h1_state, .ref h1_month, .ref h1_school, .ref h1_wage, .ref h1_gift, .ref h1_wish])), (h1_school, .inl (cI, 200, .inl h1_school_f)), (h1_wage, .inl (cI, 200, .inl h1_wage_f)), (h1_gift, .inl (cI, 200, .inl h1_gift_f))] H := hP
  have hD : va_D A [(h0, .inr (6, [.long h0_n, .long h0_school, .long h0_wage, .long h0_gift, .long h0_others, .long h0_otherSchool, .long h0_otherWage, .long h0_otherGift, .long r12, .long h0_schoolWage, .long h0_wageWage])), (h1, .inr (5, [.int h1_n, .ref h1_state, .ref h1_month, .ref h1_school, .ref h1_wage, .ref h1_gift, .ref h1_wish])), (h1_school, .inl (cI, 200, .inl h1_school_f)), (h1_wage, .inl (cI, 200, .inl h1_wage_f)), (h1_gift, .inl (cI, 200, .inl h1_gift_f))] := hD
  refine lv_aload_n hx hb dX6_take_32 rfl (lv_at hl 2 rfl) ?_
  refine lv_dup hx hb dX6_take_33 rfl ?_
  refine va_get (D := (dC, dI)) (ci := 6) (v := .long h0_schoolWage) (C := RX6) (T := TX6) (N := 11) hx hb hts hi6 hown hK hP 0 rfl rfl 9 (by decide) hk3 (fun _ h9 => h9) rfl dX6_take_34 ?_
  refine lv_lload hx hb dX6_take_37 (lv_at hl 1 rfl) ?_
  refine lv_lload hx hb dX6_take_39 (lv_at hl 0 rfl) ?_
  refine lv_lmul hx hb dX6_take_41 ?_
  refine lv_topl (fun r15 _ => ?_)
  refine lv_ladd hx hb dX6_take_42 ?_
  refine lv_topl (fun r16 _ => ?_)
  refine va_put (D := (dC, dI)) (ci := 6) (v := .long r16) (ty := .long) (C := RX6) (T := TX6) (N := 11) hx hb hts hi6 tyX6 tyX6_ok nmX6 hown hK hP hD hS 0 rfl rfl 9 (by decide) hk3 (fun _ h9 => h9) rfl (by decide +kernel) rfl rfl (Nat.le_of_ble_eq_true rfl) dX6_take_43 (fun H locs hP hD hS => ?_)
  have hP : va_P (dC, dI) vwCl [(h0, .inr (6, [.long h0_n, .long h0_school, .long h0_wage, .long h0_gift, .long h0_others, .long h0_otherSchool, .long h0_otherWage, .long h0_otherGift, .long r12, .long r16, .long h0_wageWage])), (h1, .inr (5, [.int h1_n, .ref h1_state, .ref h1_month, .ref h1_school, .ref h1_wage, .ref h1_gift, .ref h1_wish])), (h1_school, .inl (cI, 200, .inl h1_school_f)), (h1_wage, .inl (cI, 200, .inl h1_wage_f)), (h1_gift, .inl (cI, 200, .inl h1_gift_f))] H := hP
  have hD : va_D A [(h0, .inr (6, [.long h0_n, .long h0_school, .long h0_wage, .long h0_gift, .long h0_others, .long h0_otherSchool, .long h0_otherWage, .long h0_otherGift, .long r12, .long r16, .long h0_wageWage])), (h1, .inr (5, [.int h1_n, .ref h1_state, .ref h1_month, .ref h1_school, .ref h1_wage, .ref h1_gift, .ref h1_wish])), (h1_school, .inl (cI, 200, .inl h1_school_f)), (h1_wage, .inl (cI, 200, .inl h1_wage_f)), (h1_gift, .inl (cI, 200, .inl h1_gift_f))] := hD
  refine lv_aload_n hx hb dX6_take_46 rfl (lv_at hl 2 rfl) ?_
  refine lv_dup hx hb dX6_take_47 rfl ?_
  refine va_get (D := (dC, dI)) (ci := 6) (v := .long h0_wageWage) (C := RX6) (T := TX6) (N := 11) hx hb hts hi6 hown hK hP 0 rfl rfl 10 (by decide) hk4 (fun _ h9 => h9) rfl dX6_take_48 ?_
  refine lv_lload hx hb dX6_take_51 (lv_at hl 0 rfl) ?_
  refine lv_lload hx hb dX6_take_53 (lv_at hl 0 rfl) ?_
  refine lv_lmul hx hb dX6_take_55 ?_
  refine lv_topl (fun r17 _ => ?_)
  refine lv_ladd hx hb dX6_take_56 ?_
  refine lv_topl (fun r18 _ => ?_)
  refine va_put (D := (dC, dI)) (ci := 6) (v := .long r18) (ty := .long) (C := RX6) (T := TX6) (N := 11) hx hb hts hi6 tyX6 tyX6_ok nmX6 hown hK hP hD hS 0 rfl rfl 10 (by decide) hk4 (fun _ h9 => h9) rfl (by decide +kernel) rfl rfl (Nat.le_of_ble_eq_true rfl) dX6_take_57 (fun H locs hP hD hS => ?_)
  have hP : va_P (dC, dI) vwCl [(h0, .inr (6, [.long h0_n, .long h0_school, .long h0_wage, .long h0_gift, .long h0_others, .long h0_otherSchool, .long h0_otherWage, .long h0_otherGift, .long r12, .long r16, .long r18])), (h1, .inr (5, [.int h1_n, .ref h1_state, .ref h1_month, .ref h1_school, .ref h1_wage, .ref h1_gift, .ref h1_wish])), (h1_school, .inl (cI, 200, .inl h1_school_f)), (h1_wage, .inl (cI, 200, .inl h1_wage_f)), (h1_gift, .inl (cI, 200, .inl h1_gift_f))] H := hP
  have hD : va_D A [(h0, .inr (6, [.long h0_n, .long h0_school, .long h0_wage, .long h0_gift, .long h0_others, .long h0_otherSchool, .long h0_otherWage, .long h0_otherGift, .long r12, .long r16, .long r18])), (h1, .inr (5, [.int h1_n, .ref h1_state, .ref h1_month, .ref h1_school, .ref h1_wage, .ref h1_gift, .ref h1_wish])), (h1_school, .inl (cI, 200, .inl h1_school_f)), (h1_wage, .inl (cI, 200, .inl h1_wage_f)), (h1_gift, .inl (cI, 200, .inl h1_gift_f))] := hD
  refine lv_iload_n hx hb dX6_take_60 rfl (lv_at hl 5 rfl) ?_
  refine lv_if_eq (tgt := 115) hx hb dX6_take_61 (by decide) (fun c_19 => ?_) (fun c_19 => ?_)
  · have f20 : p3.toInt = 0 := z_eq rfl (show Int32.toInt 0 = 0 from by decide) c_19
    refine lv_aload_n hx hb dX6_take_115 rfl (lv_at hl 2 rfl) ?_
    refine lv_dup hx hb dX6_take_116 rfl ?_
    refine va_get (D := (dC, dI)) (ci := 6) (v := .long h0_others) (C := RX6) (T := TX6) (N := 11) hx hb hts hi6 hown hK hP 0 rfl rfl 4 (by decide) hk5 (fun _ h9 => h9) rfl dX6_take_117 ?_
    refine lv_lconst (v := 1) hx hb dX6_take_120 (by decide) ?_
    refine lv_ladd hx hb dX6_take_121 ?_
    refine lv_topl (fun r21 h22 => ?_)
    have f23 : r21.toInt = h0_others.toInt + 1 := z_ladd h22 rfl (show Int64.toInt 1 = 1 from by decide) (by omega) (by omega)
    refine va_put (D := (dC, dI)) (ci := 6) (v := .long r21) (ty := .long) (C := RX6) (T := TX6) (N := 11) hx hb hts hi6 tyX6 tyX6_ok nmX6 hown hK hP hD hS 0 rfl rfl 4 (by decide) hk5 (fun _ h9 => h9) rfl (by decide +kernel) rfl rfl (Nat.le_of_ble_eq_true rfl) dX6_take_122 (fun H locs hP hD hS => ?_)
    have hP : va_P (dC, dI) vwCl [(h0, .inr (6, [.long h0_n, .long h0_school, .long h0_wage, .long h0_gift, .long r21, .long h0_otherSchool, .long h0_otherWage, .long h0_otherGift, .long r12, .long r16, .long r18])), (h1, .inr (5, [.int h1_n, .ref h1_state, .ref h1_month, .ref h1_school, .ref h1_wage, .ref h1_gift, .ref h1_wish])), (h1_school, .inl (cI, 200, .inl h1_school_f)), (h1_wage, .inl (cI, 200, .inl h1_wage_f)), (h1_gift, .inl (cI, 200, .inl h1_gift_f))] H := hP
    have hD : va_D A [(h0, .inr (6, [.long h0_n, .long h0_school, .long h0_wage, .long h0_gift, .long r21, .long h0_otherSchool, .long h0_otherWage, .long h0_otherGift, .long r12, .long r16, .long r18])), (h1, .inr (5, [.int h1_n, .ref h1_state, .ref h1_month, .ref h1_school, .ref h1_wage, .ref h1_gift, .ref h1_wish])), (h1_school, .inl (cI, 200, .inl h1_school_f)), (h1_wage, .inl (cI, 200, .inl h1_wage_f)), (h1_gift, .inl (cI, 200, .inl h1_gift_f))] := hD
    refine lv_aload_n hx hb dX6_take_125 rfl (lv_at hl 2 rfl) ?_
    refine lv_dup hx hb dX6_take_126 rfl ?_
    refine va_get (D := (dC, dI)) (ci := 6) (v := .long h0_otherSchool) (C := RX6) (T := TX6) (N := 11) hx hb hts hi6 hown hK hP 0 rfl rfl 5 (by decide) hk6 (fun _ h9 => h9) rfl dX6_take_127 ?_
    refine lv_lload hx hb dX6_take_130 (lv_at hl 1 rfl) ?_
    refine lv_ladd hx hb dX6_take_132 ?_
    refine lv_topl (fun r24 h25 => ?_)
    have f26 : r24.toInt = h0_otherSchool.toInt + r2.toInt := z_ladd h25 rfl rfl (by omega) (by omega)
    refine va_put (D := (dC, dI)) (ci := 6) (v := .long r24) (ty := .long) (C := RX6) (T := TX6) (N := 11) hx hb hts hi6 tyX6 tyX6_ok nmX6 hown hK hP hD hS 0 rfl rfl 5 (by decide) hk6 (fun _ h9 => h9) rfl (by decide +kernel) rfl rfl (Nat.le_of_ble_eq_true rfl) dX6_take_133 (fun H locs hP hD hS => ?_)
    have hP : va_P (dC, dI) vwCl [(h0, .inr (6, [.long h0_n, .long h0_school, .long h0_wage, .long h0_gift, .long r21, .long r24, .long h0_otherWage, .long h0_otherGift, .long r12, .long r16, .long r18])), (h1, .inr (5, [.int h1_n, .ref h1_state, .ref h1_month, .ref h1_school, .ref h1_wage, .ref h1_gift, .ref h1_wish])), (h1_school, .inl (cI, 200, .inl h1_school_f)), (h1_wage, .inl (cI, 200, .inl h1_wage_f)), (h1_gift, .inl (cI, 200, .inl h1_gift_f))] H := hP
    have hD : va_D A [(h0, .inr (6, [.long h0_n, .long h0_school, .long h0_wage, .long h0_gift, .long r21, .long r24, .long h0_otherWage, .long h0_otherGift, .long r12, .long r16, .long r18])), (h1, .inr (5, [.int h1_n, .ref h1_state, .ref h1_month, .ref h1_school, .ref h1_wage, .ref h1_gift, .ref h1_wish])), (h1_school, .inl (cI, 200, .inl h1_school_f)), (h1_wage, .inl (cI, 200, .inl h1_wage_f)), (h1_gift, .inl (cI, 200, .inl h1_gift_f))] := hD
    refine lv_aload_n hx hb dX6_take_136 rfl (lv_at hl 2 rfl) ?_
    refine lv_dup hx hb dX6_take_137 rfl ?_
    refine va_get (D := (dC, dI)) (ci := 6) (v := .long h0_otherWage) (C := RX6) (T := TX6) (N := 11) hx hb hts hi6 hown hK hP 0 rfl rfl 6 (by decide) hk7 (fun _ h9 => h9) rfl dX6_take_138 ?_
    refine lv_lload hx hb dX6_take_141 (lv_at hl 0 rfl) ?_
    refine lv_ladd hx hb dX6_take_143 ?_
    refine lv_topl (fun r27 _ => ?_)
    refine va_put (D := (dC, dI)) (ci := 6) (v := .long r27) (ty := .long) (C := RX6) (T := TX6) (N := 11) hx hb hts hi6 tyX6 tyX6_ok nmX6 hown hK hP hD hS 0 rfl rfl 6 (by decide) hk7 (fun _ h9 => h9) rfl (by decide +kernel) rfl rfl (Nat.le_of_ble_eq_true rfl) dX6_take_144 (fun H locs hP hD hS => ?_)
    have hP : va_P (dC, dI) vwCl [(h0, .inr (6, [.long h0_n, .long h0_school, .long h0_wage, .long h0_gift, .long r21, .long r24, .long r27, .long h0_otherGift, .long r12, .long r16, .long r18])), (h1, .inr (5, [.int h1_n, .ref h1_state, .ref h1_month, .ref h1_school, .ref h1_wage, .ref h1_gift, .ref h1_wish])), (h1_school, .inl (cI, 200, .inl h1_school_f)), (h1_wage, .inl (cI, 200, .inl h1_wage_f)), (h1_gift, .inl (cI, 200, .inl h1_gift_f))] H := hP
    have hD : va_D A [(h0, .inr (6, [.long h0_n, .long h0_school, .long h0_wage, .long h0_gift, .long r21, .long r24, .long r27, .long h0_otherGift, .long r12, .long r16, .long r18])), (h1, .inr (5, [.int h1_n, .ref h1_state, .ref h1_month, .ref h1_school, .ref h1_wage, .ref h1_gift, .ref h1_wish])), (h1_school, .inl (cI, 200, .inl h1_school_f)), (h1_wage, .inl (cI, 200, .inl h1_wage_f)), (h1_gift, .inl (cI, 200, .inl h1_gift_f))] := hD
    refine lv_aload_n hx hb dX6_take_147 rfl (lv_at hl 2 rfl) ?_
    refine lv_dup hx hb dX6_take_148 rfl ?_
    refine va_get (D := (dC, dI)) (ci := 6) (v := .long h0_otherGift) (C := RX6) (T := TX6) (N := 11) hx hb hts hi6 hown hK hP 0 rfl rfl 7 (by decide) hk8 (fun _ h9 => h9) rfl dX6_take_149 ?_
    refine lv_aload_n hx hb dX6_take_152 rfl (lv_at hl 3 rfl) ?_
    refine va_get (D := (dC, dI)) (ci := 5) (v := .ref h1_gift) (C := RX5) (T := TX5) (N := 7) hx hb hts hi5 hown hK hP 1 rfl rfl 5 (by decide) hk9 (fun _ h9 => h9) rfl dX6_take_153 ?_
    refine lv_iload_n hx hb dX6_take_156 rfl (lv_at hl 4 rfl) ?_
    refine va_iald hx hb hK hP 4 1 rfl rfl (z_in rfl (by omega) (by omega)) dX6_take_157 ?_
    refine lv_i2l hx hb dX6_take_158 rfl ?_
    have f28 : -2147483648 ≤ ((h1_gift_f p2.toNatClampNeg).toInt) ∧ ((h1_gift_f p2.toNatClampNeg).toInt) < 2147483648 := z_rngI rfl
    refine lv_topl (fun r29 h30 => ?_)
    have f31 : r29.toInt = ((h1_gift_f p2.toNatClampNeg).toInt) := z_i2lT h30 rfl
    refine lv_ladd hx hb dX6_take_159 ?_
    refine lv_topl (fun r32 _ => ?_)
    refine va_put (D := (dC, dI)) (ci := 6) (v := .long r32) (ty := .long) (C := RX6) (T := TX6) (N := 11) hx hb hts hi6 tyX6 tyX6_ok nmX6 hown hK hP hD hS 0 rfl rfl 7 (by decide) hk8 (fun _ h9 => h9) rfl (by decide +kernel) rfl rfl (Nat.le_of_ble_eq_true rfl) dX6_take_160 (fun H locs hP hD hS => ?_)
    have hP : va_P (dC, dI) vwCl [(h0, .inr (6, [.long h0_n, .long h0_school, .long h0_wage, .long h0_gift, .long r21, .long r24, .long r27, .long r32, .long r12, .long r16, .long r18])), (h1, .inr (5, [.int h1_n, .ref h1_state, .ref h1_month, .ref h1_school, .ref h1_wage, .ref h1_gift, .ref h1_wish])), (h1_school, .inl (cI, 200, .inl h1_school_f)), (h1_wage, .inl (cI, 200, .inl h1_wage_f)), (h1_gift, .inl (cI, 200, .inl h1_gift_f))] H := hP
    have hD : va_D A [(h0, .inr (6, [.long h0_n, .long h0_school, .long h0_wage, .long h0_gift, .long r21, .long r24, .long r27, .long r32, .long r12, .long r16, .long r18])), (h1, .inr (5, [.int h1_n, .ref h1_state, .ref h1_month, .ref h1_school, .ref h1_wage, .ref h1_gift, .ref h1_wish])), (h1_school, .inl (cI, 200, .inl h1_school_f)), (h1_wage, .inl (cI, 200, .inl h1_wage_f)), (h1_gift, .inl (cI, 200, .inl h1_gift_f))] := hD
    exact y_vret ((h0_n, h0_school, h0_wage, h0_gift, r21, r24, r27, r32, r12, r16, r18) : Int64 × Int64 × Int64 × Int64 × Int64 × Int64 × Int64 × Int64 × Int64 × Int64 × Int64) hx hb hr hlocks hK hP hD hS hAe hQ rfl ⟨(show 0 ≤ h0_n.toInt from by omega), (show 0 ≤ r21.toInt from by omega), (show h0_n.toInt ≤ 200 from by omega), (show r21.toInt ≤ 200 from by omega), (show h0_n.toInt + r21.toInt ≤ 200 from by omega), (show 0 ≤ h0_school.toInt from by omega), (show h0_school.toInt ≤ 300 * h0_n.toInt from by omega), (show 0 ≤ r24.toInt from by omega), (show r24.toInt ≤ 300 * r21.toInt from by omega), (show 0 ≤ r12.toInt from by omega), (show r12.toInt ≤ 90000 * (h0_n.toInt + r21.toInt) from by omega), (show h0_n.toInt + r21.toInt = h0_n.toInt + h0_others.toInt + 1 from by omega)⟩ dX6_take_163
  · have f20 : ¬ p3.toInt = 0 := z_ne rfl (show Int32.toInt 0 = 0 from by decide) c_19
    refine lv_aload_n hx hb dX6_take_64 rfl (lv_at hl 2 rfl) ?_
    refine lv_dup hx hb dX6_take_65 rfl ?_
    refine va_get (D := (dC, dI)) (ci := 6) (v := .long h0_n) (C := RX6) (T := TX6) (N := 11) hx hb hts hi6 hown hK hP 0 rfl rfl 0 (by decide) hk10 (fun _ h9 => h9) rfl dX6_take_66 ?_
    refine lv_lconst (v := 1) hx hb dX6_take_69 (by decide) ?_
    refine lv_ladd hx hb dX6_take_70 ?_
    refine lv_topl (fun r33 h34 => ?_)
    have f35 : r33.toInt = h0_n.toInt + 1 := z_ladd h34 rfl (show Int64.toInt 1 = 1 from by decide) (by omega) (by omega)
    refine va_put (D := (dC, dI)) (ci := 6) (v := .long r33) (ty := .long) (C := RX6) (T := TX6) (N := 11) hx hb hts hi6 tyX6 tyX6_ok nmX6 hown hK hP hD hS 0 rfl rfl 0 (by decide) hk10 (fun _ h9 => h9) rfl (by decide +kernel) rfl rfl (Nat.le_of_ble_eq_true rfl) dX6_take_71 (fun H locs hP hD hS => ?_)
    have hP : va_P (dC, dI) vwCl [(h0, .inr (6, [.long r33, .long h0_school, .long h0_wage, .long h0_gift, .long h0_others, .long h0_otherSchool, .long h0_otherWage, .long h0_otherGift, .long r12, .long r16, .long r18])), (h1, .inr (5, [.int h1_n, .ref h1_state, .ref h1_month, .ref h1_school, .ref h1_wage, .ref h1_gift, .ref h1_wish])), (h1_school, .inl (cI, 200, .inl h1_school_f)), (h1_wage, .inl (cI, 200, .inl h1_wage_f)), (h1_gift, .inl (cI, 200, .inl h1_gift_f))] H := hP
    have hD : va_D A [(h0, .inr (6, [.long r33, .long h0_school, .long h0_wage, .long h0_gift, .long h0_others, .long h0_otherSchool, .long h0_otherWage, .long h0_otherGift, .long r12, .long r16, .long r18])), (h1, .inr (5, [.int h1_n, .ref h1_state, .ref h1_month, .ref h1_school, .ref h1_wage, .ref h1_gift, .ref h1_wish])), (h1_school, .inl (cI, 200, .inl h1_school_f)), (h1_wage, .inl (cI, 200, .inl h1_wage_f)), (h1_gift, .inl (cI, 200, .inl h1_gift_f))] := hD
    refine lv_aload_n hx hb dX6_take_74 rfl (lv_at hl 2 rfl) ?_
    refine lv_dup hx hb dX6_take_75 rfl ?_
    refine va_get (D := (dC, dI)) (ci := 6) (v := .long h0_school) (C := RX6) (T := TX6) (N := 11) hx hb hts hi6 hown hK hP 0 rfl rfl 1 (by decide) hk11 (fun _ h9 => h9) rfl dX6_take_76 ?_
    refine lv_lload hx hb dX6_take_79 (lv_at hl 1 rfl) ?_
    refine lv_ladd hx hb dX6_take_81 ?_
    refine lv_topl (fun r36 h37 => ?_)
    have f38 : r36.toInt = h0_school.toInt + r2.toInt := z_ladd h37 rfl rfl (by omega) (by omega)
    refine va_put (D := (dC, dI)) (ci := 6) (v := .long r36) (ty := .long) (C := RX6) (T := TX6) (N := 11) hx hb hts hi6 tyX6 tyX6_ok nmX6 hown hK hP hD hS 0 rfl rfl 1 (by decide) hk11 (fun _ h9 => h9) rfl (by decide +kernel) rfl rfl (Nat.le_of_ble_eq_true rfl) dX6_take_82 (fun H locs hP hD hS => ?_)
    have hP : va_P (dC, dI) vwCl [(h0, .inr (6, [.long r33, .long r36, .long h0_wage, .long h0_gift, .long h0_others, .long h0_otherSchool, .long h0_otherWage, .long h0_otherGift, .long r12, .long r16, .long r18])), (h1, .inr (5, [.int h1_n, .ref h1_state, .ref h1_month, .ref h1_school, .ref h1_wage, .ref h1_gift, .ref h1_wish])), (h1_school, .inl (cI, 200, .inl h1_school_f)), (h1_wage, .inl (cI, 200, .inl h1_wage_f)), (h1_gift, .inl (cI, 200, .inl h1_gift_f))] H := hP
    have hD : va_D A [(h0, .inr (6, [.long r33, .long r36, .long h0_wage, .long h0_gift, .long h0_others, .long h0_otherSchool, .long h0_otherWage, .long h0_otherGift, .long r12, .long r16, .long r18])), (h1, .inr (5, [.int h1_n, .ref h1_state, .ref h1_month, .ref h1_school, .ref h1_wage, .ref h1_gift, .ref h1_wish])), (h1_school, .inl (cI, 200, .inl h1_school_f)), (h1_wage, .inl (cI, 200, .inl h1_wage_f)), (h1_gift, .inl (cI, 200, .inl h1_gift_f))] := hD
    refine lv_aload_n hx hb dX6_take_85 rfl (lv_at hl 2 rfl) ?_
    refine lv_dup hx hb dX6_take_86 rfl ?_
    refine va_get (D := (dC, dI)) (ci := 6) (v := .long h0_wage) (C := RX6) (T := TX6) (N := 11) hx hb hts hi6 hown hK hP 0 rfl rfl 2 (by decide) hk12 (fun _ h9 => h9) rfl dX6_take_87 ?_
    refine lv_lload hx hb dX6_take_90 (lv_at hl 0 rfl) ?_
    refine lv_ladd hx hb dX6_take_92 ?_
    refine lv_topl (fun r39 _ => ?_)
    refine va_put (D := (dC, dI)) (ci := 6) (v := .long r39) (ty := .long) (C := RX6) (T := TX6) (N := 11) hx hb hts hi6 tyX6 tyX6_ok nmX6 hown hK hP hD hS 0 rfl rfl 2 (by decide) hk12 (fun _ h9 => h9) rfl (by decide +kernel) rfl rfl (Nat.le_of_ble_eq_true rfl) dX6_take_93 (fun H locs hP hD hS => ?_)
    have hP : va_P (dC, dI) vwCl [(h0, .inr (6, [.long r33, .long r36, .long r39, .long h0_gift, .long h0_others, .long h0_otherSchool, .long h0_otherWage, .long h0_otherGift, .long r12, .long r16, .long r18])), (h1, .inr (5, [.int h1_n, .ref h1_state, .ref h1_month, .ref h1_school, .ref h1_wage, .ref h1_gift, .ref h1_wish])), (h1_school, .inl (cI, 200, .inl h1_school_f)), (h1_wage, .inl (cI, 200, .inl h1_wage_f)), (h1_gift, .inl (cI, 200, .inl h1_gift_f))] H := hP
    have hD : va_D A [(h0, .inr (6, [.long r33, .long r36, .long r39, .long h0_gift, .long h0_others, .long h0_otherSchool, .long h0_otherWage, .long h0_otherGift, .long r12, .long r16, .long r18])), (h1, .inr (5, [.int h1_n, .ref h1_state, .ref h1_month, .ref h1_school, .ref h1_wage, .ref h1_gift, .ref h1_wish])), (h1_school, .inl (cI, 200, .inl h1_school_f)), (h1_wage, .inl (cI, 200, .inl h1_wage_f)), (h1_gift, .inl (cI, 200, .inl h1_gift_f))] := hD
    refine lv_aload_n hx hb dX6_take_96 rfl (lv_at hl 2 rfl) ?_
    refine lv_dup hx hb dX6_take_97 rfl ?_
    refine va_get (D := (dC, dI)) (ci := 6) (v := .long h0_gift) (C := RX6) (T := TX6) (N := 11) hx hb hts hi6 hown hK hP 0 rfl rfl 3 (by decide) hk13 (fun _ h9 => h9) rfl dX6_take_98 ?_
    refine lv_aload_n hx hb dX6_take_101 rfl (lv_at hl 3 rfl) ?_
    refine va_get (D := (dC, dI)) (ci := 5) (v := .ref h1_gift) (C := RX5) (T := TX5) (N := 7) hx hb hts hi5 hown hK hP 1 rfl rfl 5 (by decide) hk9 (fun _ h9 => h9) rfl dX6_take_102 ?_
    refine lv_iload_n hx hb dX6_take_105 rfl (lv_at hl 4 rfl) ?_
    refine va_iald hx hb hK hP 4 1 rfl rfl (z_in rfl (by omega) (by omega)) dX6_take_106 ?_
    refine lv_i2l hx hb dX6_take_107 rfl ?_
    have f40 : -2147483648 ≤ ((h1_gift_f p2.toNatClampNeg).toInt) ∧ ((h1_gift_f p2.toNatClampNeg).toInt) < 2147483648 := z_rngI rfl
    refine lv_topl (fun r41 h42 => ?_)
    have f43 : r41.toInt = ((h1_gift_f p2.toNatClampNeg).toInt) := z_i2lT h42 rfl
    refine lv_ladd hx hb dX6_take_108 ?_
    refine lv_topl (fun r44 _ => ?_)
    refine va_put (D := (dC, dI)) (ci := 6) (v := .long r44) (ty := .long) (C := RX6) (T := TX6) (N := 11) hx hb hts hi6 tyX6 tyX6_ok nmX6 hown hK hP hD hS 0 rfl rfl 3 (by decide) hk13 (fun _ h9 => h9) rfl (by decide +kernel) rfl rfl (Nat.le_of_ble_eq_true rfl) dX6_take_109 (fun H locs hP hD hS => ?_)
    have hP : va_P (dC, dI) vwCl [(h0, .inr (6, [.long r33, .long r36, .long r39, .long r44, .long h0_others, .long h0_otherSchool, .long h0_otherWage, .long h0_otherGift, .long r12, .long r16, .long r18])), (h1, .inr (5, [.int h1_n, .ref h1_state, .ref h1_month, .ref h1_school, .ref h1_wage, .ref h1_gift, .ref h1_wish])), (h1_school, .inl (cI, 200, .inl h1_school_f)), (h1_wage, .inl (cI, 200, .inl h1_wage_f)), (h1_gift, .inl (cI, 200, .inl h1_gift_f))] H := hP
    have hD : va_D A [(h0, .inr (6, [.long r33, .long r36, .long r39, .long r44, .long h0_others, .long h0_otherSchool, .long h0_otherWage, .long h0_otherGift, .long r12, .long r16, .long r18])), (h1, .inr (5, [.int h1_n, .ref h1_state, .ref h1_month, .ref h1_school, .ref h1_wage, .ref h1_gift, .ref h1_wish])), (h1_school, .inl (cI, 200, .inl h1_school_f)), (h1_wage, .inl (cI, 200, .inl h1_wage_f)), (h1_gift, .inl (cI, 200, .inl h1_gift_f))] := hD
    refine lv_goto (tgt := 163) hx hb dX6_take_112 (by decide) ?_
    exact y_vret ((r33, r36, r39, r44, h0_others, h0_otherSchool, h0_otherWage, h0_otherGift, r12, r16, r18) : Int64 × Int64 × Int64 × Int64 × Int64 × Int64 × Int64 × Int64 × Int64 × Int64 × Int64) hx hb hr hlocks hK hP hD hS hAe hQ rfl ⟨(show 0 ≤ r33.toInt from by omega), (show 0 ≤ h0_others.toInt from by omega), (show r33.toInt ≤ 200 from by omega), (show h0_others.toInt ≤ 200 from by omega), (show r33.toInt + h0_others.toInt ≤ 200 from by omega), (show 0 ≤ r36.toInt from by omega), (show r36.toInt ≤ 300 * r33.toInt from by omega), (show 0 ≤ h0_otherSchool.toInt from by omega), (show h0_otherSchool.toInt ≤ 300 * h0_others.toInt from by omega), (show 0 ≤ r12.toInt from by omega), (show r12.toInt ≤ 90000 * (r33.toInt + h0_others.toInt) from by omega), (show r33.toInt + h0_others.toInt = h0_n.toInt + h0_others.toInt + 1 from by omega)⟩ dX6_take_163
set_option maxHeartbeats 8000000 in
set_option maxRecDepth 100000 in
theorem k_X6_trueSpan (l : Launch) (dC : Nat → ClassId) (dI : Nat → Nat → Nat) (cB cI cJ cZ cP cQ : ClassId) (h0 : Nat) (sz : Nat) (p1 : Int32) (p2 : Int32) (h0_n : Int64) (h0_school : Int64) (h0_wage : Int64) (h0_gift : Int64) (h0_others : Int64) (h0_otherSchool : Int64) (h0_otherWage : Int64) (h0_otherGift : Int64) (h0_schoolSchool : Int64) (h0_schoolWage : Int64) (h0_wageWage : Int64) (e0 : 0 ≤ h0_n.toInt) (e1 : 0 ≤ h0_others.toInt) (e2 : h0_n.toInt ≤ 200) (e3 : h0_others.toInt ≤ 200) (e4 : h0_n.toInt + h0_others.toInt ≤ 200) (e5 : 0 ≤ h0_school.toInt) (e6 : h0_school.toInt ≤ 300 * h0_n.toInt) (e7 : 0 ≤ h0_otherSchool.toInt) (e8 : h0_otherSchool.toInt ≤ 300 * h0_others.toInt) (e9 : 0 ≤ h0_schoolSchool.toInt) (e10 : h0_schoolSchool.toInt ≤ 90000 * (h0_n.toInt + h0_others.toInt)) : Met l yX6_trueSpan wsX6_trueSpan ({ frames := 5, cells := 0, slots := 0, locals := 125 } : Room) (zPc [.ref h0, .int p1, .int p2] (dC, dI) (zT cB cI cJ cZ cP cQ) [(h0, .inr (6, [.long h0_n, .long h0_school, .long h0_wage, .long h0_gift, .long h0_others, .long h0_otherSchool, .long h0_otherWage, .long h0_otherGift, .long h0_schoolSchool, .long h0_schoolWage, .long h0_wageWage]))] sz [] []) (va_Qi (fun (r : Int32) (u : Unit) => (True) ∨ (r = 0 ∧ (((p2.toInt < 0 ∨ 2 < p2.toInt) ∨ (p2.toInt < 0 ∨ 2 < p2.toInt)))) ∨ (r = 1 ∧ (((p2.toInt < 0 ∨ 2 < p2.toInt))))) (zB (dC, dI) (zT cB cI cJ cZ cP cQ) (fun u : Unit => [(h0, .inr (6, [.long h0_n, .long h0_school, .long h0_wage, .long h0_gift, .long h0_others, .long h0_otherSchool, .long h0_otherWage, .long h0_otherGift, .long h0_schoolSchool, .long h0_schoolWage, .long h0_wageWage]))]) [(h0, .inr (6, [.long h0_n, .long h0_school, .long h0_wage, .long h0_gift, .long h0_others, .long h0_otherSchool, .long h0_otherWage, .long h0_otherGift, .long h0_schoolSchool, .long h0_schoolWage, .long h0_wageWage]))] sz) (va_A [(h0, .inr (6, [.long h0_n, .long h0_school, .long h0_wage, .long h0_gift, .long h0_others, .long h0_otherSchool, .long h0_otherWage, .long h0_otherGift, .long h0_schoolSchool, .long h0_schoolWage, .long h0_wageWage]))] sz)) 0 0 (va_A [(h0, .inr (6, [.long h0_n, .long h0_school, .long h0_wage, .long h0_gift, .long h0_others, .long h0_otherSchool, .long h0_otherWage, .long h0_otherGift, .long h0_schoolSchool, .long h0_schoolWage, .long h0_wageWage]))] sz) := by
  refine z_enter (cc := cX6_trueSpan) (maxL := 3) (ret := (some .int)) (by decide) rfl (Nat.le_of_ble_eq_true rfl) ?_
  intro p e s m below meth c A ls Q H locs hx hb hr hml hown hts hlocks hin hK hP hD hA hX hS hAe hQ hl
  have hown : s.vm.findClass RX6 = some m.cls := hown
  have hl : lv_has ls 3 [(0, .ref h0), (1, .int p1), (2, .int p2)] := hl
  refine lv_aload_n hx hb dX6_trueSpan_0 rfl (lv_at hl 0 rfl) ?_
  refine lv_iload_n hx hb dX6_trueSpan_1 rfl (lv_at hl 1 rfl) ?_
  refine lv_iload_n hx hb dX6_trueSpan_2 rfl (lv_at hl 2 rfl) ?_
  refine lv_iconst (v := 0) hx hb dX6_trueSpan_3 (by decide) ?_
  refine y_fini (w' := fun (u1 : Unit) => [(h0, .inr (6, [.long h0_n, .long h0_school, .long h0_wage, .long h0_gift, .long h0_others, .long h0_otherSchool, .long h0_otherWage, .long h0_otherGift, .long h0_schoolSchool, .long h0_schoolWage, .long h0_wageWage]))]) (va_runV (As := [.int p1, .int p2, .int 0]) (rest := []) ⟨hx, hb, hml, hown, hts⟩ (k_X6_spanBy l dC dI cB cI cJ cZ cP cQ h0 H.size p1 p2 0 h0_n h0_school h0_wage h0_gift h0_others h0_otherSchool h0_otherWage h0_otherGift h0_schoolSchool h0_schoolWage h0_wageWage (show 0 ≤ h0_n.toInt from by omega) (show 0 ≤ h0_others.toInt from by omega) (show h0_n.toInt ≤ 200 from by omega) (show h0_others.toInt ≤ 200 from by omega) (show h0_n.toInt + h0_others.toInt ≤ 200 from by omega) (show 0 ≤ h0_school.toInt from by omega) (show h0_school.toInt ≤ 300 * h0_n.toInt from by omega) (show 0 ≤ h0_otherSchool.toInt from by omega) (show h0_otherSchool.toInt ≤ 300 * h0_others.toInt from by omega) (show 0 ≤ h0_schoolSchool.toInt from by omega) (show h0_schoolSchool.toInt ≤ 90000 * (h0_n.toInt + h0_others.toInt) from by omega) (show 0 ≤ (0 : Int) from by omega) (show (0 : Int) ≤ 1 from by omega)) (cwV 3 hts gX6_trueSpan_X6_spanBy rfl rfl rfl ⟨rfl, hd_X6_spanBy⟩ ⟨Nat.le_of_ble_eq_true rfl, Nat.le_of_ble_eq_true rfl⟩) (z_pV (ci := 6) hK hP hD zX_nil [0] (by decide) rfl rfl 0 rfl) rfl rfl hl.1 rfl (lv_room (Nat.le_of_ble_eq_true rfl)) dX6_trueSpan_4 ⟨Nat.le_of_ble_eq_true rfl, Nat.le_of_ble_eq_true rfl⟩) hP hD hS hA [0] [] [0] rfl rfl (by decide) (by decide) (fun _ => rfl) (by decide) (fun r2 u1 H locs hp3 hP hD hS => ?_)
  have hP : va_P (dC, dI) vwCl [(h0, .inr (6, [.long h0_n, .long h0_school, .long h0_wage, .long h0_gift, .long h0_others, .long h0_otherSchool, .long h0_otherWage, .long h0_otherGift, .long h0_schoolSchool, .long h0_schoolWage, .long h0_wageWage]))] H := hP
  have hD : va_D A [(h0, .inr (6, [.long h0_n, .long h0_school, .long h0_wage, .long h0_gift, .long h0_others, .long h0_otherSchool, .long h0_otherWage, .long h0_otherGift, .long h0_schoolSchool, .long h0_schoolWage, .long h0_wageWage]))] := hD
  have hp3 : (True) ∨ (r2 = 0 ∧ ((p2.toInt < 0 ∨ 2 < p2.toInt) ∨ (p2.toInt < 0 ∨ 2 < p2.toInt))) ∨ (r2 = 1 ∧ ((p2.toInt < 0 ∨ 2 < p2.toInt))) := hp3
  rcases hp3 with f4 | f5 | f6
  · exact y_iret () hx hb hr hlocks hK hP hD hS hAe hQ rfl (Or.inl trivial) dX6_trueSpan_7
  · obtain ⟨rfl, f5⟩ := f5
    exact y_iret () hx hb hr hlocks hK hP hD hS hAe hQ rfl (Or.inr (Or.inl ⟨rfl, f5⟩)) dX6_trueSpan_7
  · obtain ⟨rfl, f6⟩ := f6
    exact y_iret () hx hb hr hlocks hK hP hD hS hAe hQ rfl (Or.inr (Or.inr ⟨rfl, f6⟩)) dX6_trueSpan_7
set_option maxHeartbeats 8000000 in
set_option maxRecDepth 100000 in
theorem k_X6_usualSpan (l : Launch) (dC : Nat → ClassId) (dI : Nat → Nat → Nat) (cB cI cJ cZ cP cQ : ClassId) (h0 : Nat) (sz : Nat) (p1 : Int32) (p2 : Int32) (h0_n : Int64) (h0_school : Int64) (h0_wage : Int64) (h0_gift : Int64) (h0_others : Int64) (h0_otherSchool : Int64) (h0_otherWage : Int64) (h0_otherGift : Int64) (h0_schoolSchool : Int64) (h0_schoolWage : Int64) (h0_wageWage : Int64) (e0 : 0 ≤ h0_n.toInt) (e1 : 0 ≤ h0_others.toInt) (e2 : h0_n.toInt ≤ 200) (e3 : h0_others.toInt ≤ 200) (e4 : h0_n.toInt + h0_others.toInt ≤ 200) (e5 : 0 ≤ h0_school.toInt) (e6 : h0_school.toInt ≤ 300 * h0_n.toInt) (e7 : 0 ≤ h0_otherSchool.toInt) (e8 : h0_otherSchool.toInt ≤ 300 * h0_others.toInt) (e9 : 0 ≤ h0_schoolSchool.toInt) (e10 : h0_schoolSchool.toInt ≤ 90000 * (h0_n.toInt + h0_others.toInt)) : Met l yX6_usualSpan wsX6_usualSpan ({ frames := 5, cells := 0, slots := 0, locals := 125 } : Room) (zPc [.ref h0, .int p1, .int p2] (dC, dI) (zT cB cI cJ cZ cP cQ) [(h0, .inr (6, [.long h0_n, .long h0_school, .long h0_wage, .long h0_gift, .long h0_others, .long h0_otherSchool, .long h0_otherWage, .long h0_otherGift, .long h0_schoolSchool, .long h0_schoolWage, .long h0_wageWage]))] sz [] []) (va_Qi (fun (r : Int32) (u : Unit) => (True) ∨ (r = 0 ∧ (((p2.toInt < 0 ∨ 2 < p2.toInt) ∨ (p2.toInt < 0 ∨ 2 < p2.toInt)))) ∨ (r = 1 ∧ (((p2.toInt < 0 ∨ 2 < p2.toInt))))) (zB (dC, dI) (zT cB cI cJ cZ cP cQ) (fun u : Unit => [(h0, .inr (6, [.long h0_n, .long h0_school, .long h0_wage, .long h0_gift, .long h0_others, .long h0_otherSchool, .long h0_otherWage, .long h0_otherGift, .long h0_schoolSchool, .long h0_schoolWage, .long h0_wageWage]))]) [(h0, .inr (6, [.long h0_n, .long h0_school, .long h0_wage, .long h0_gift, .long h0_others, .long h0_otherSchool, .long h0_otherWage, .long h0_otherGift, .long h0_schoolSchool, .long h0_schoolWage, .long h0_wageWage]))] sz) (va_A [(h0, .inr (6, [.long h0_n, .long h0_school, .long h0_wage, .long h0_gift, .long h0_others, .long h0_otherSchool, .long h0_otherWage, .long h0_otherGift, .long h0_schoolSchool, .long h0_schoolWage, .long h0_wageWage]))] sz)) 0 0 (va_A [(h0, .inr (6, [.long h0_n, .long h0_school, .long h0_wage, .long h0_gift, .long h0_others, .long h0_otherSchool, .long h0_otherWage, .long h0_otherGift, .long h0_schoolSchool, .long h0_schoolWage, .long h0_wageWage]))] sz) := by
  refine z_enter (cc := cX6_usualSpan) (maxL := 3) (ret := (some .int)) (by decide) rfl (Nat.le_of_ble_eq_true rfl) ?_
  intro p e s m below meth c A ls Q H locs hx hb hr hml hown hts hlocks hin hK hP hD hA hX hS hAe hQ hl
  have hown : s.vm.findClass RX6 = some m.cls := hown
  have hl : lv_has ls 3 [(0, .ref h0), (1, .int p1), (2, .int p2)] := hl
  refine lv_aload_n hx hb dX6_usualSpan_0 rfl (lv_at hl 0 rfl) ?_
  refine lv_iload_n hx hb dX6_usualSpan_1 rfl (lv_at hl 1 rfl) ?_
  refine lv_iload_n hx hb dX6_usualSpan_2 rfl (lv_at hl 2 rfl) ?_
  refine lv_iconst (v := 1) hx hb dX6_usualSpan_3 (by decide) ?_
  refine y_fini (w' := fun (u1 : Unit) => [(h0, .inr (6, [.long h0_n, .long h0_school, .long h0_wage, .long h0_gift, .long h0_others, .long h0_otherSchool, .long h0_otherWage, .long h0_otherGift, .long h0_schoolSchool, .long h0_schoolWage, .long h0_wageWage]))]) (va_runV (As := [.int p1, .int p2, .int 1]) (rest := []) ⟨hx, hb, hml, hown, hts⟩ (k_X6_spanBy l dC dI cB cI cJ cZ cP cQ h0 H.size p1 p2 1 h0_n h0_school h0_wage h0_gift h0_others h0_otherSchool h0_otherWage h0_otherGift h0_schoolSchool h0_schoolWage h0_wageWage (show 0 ≤ h0_n.toInt from by omega) (show 0 ≤ h0_others.toInt from by omega) (show h0_n.toInt ≤ 200 from by omega) (show h0_others.toInt ≤ 200 from by omega) (show h0_n.toInt + h0_others.toInt ≤ 200 from by omega) (show 0 ≤ h0_school.toInt from by omega) (show h0_school.toInt ≤ 300 * h0_n.toInt from by omega) (show 0 ≤ h0_otherSchool.toInt from by omega) (show h0_otherSchool.toInt ≤ 300 * h0_others.toInt from by omega) (show 0 ≤ h0_schoolSchool.toInt from by omega) (show h0_schoolSchool.toInt ≤ 90000 * (h0_n.toInt + h0_others.toInt) from by omega) (show 0 ≤ (1 : Int) from by omega) (show (1 : Int) ≤ 1 from by omega)) (cwV 3 hts gX6_usualSpan_X6_spanBy rfl rfl rfl ⟨rfl, hd_X6_spanBy⟩ ⟨Nat.le_of_ble_eq_true rfl, Nat.le_of_ble_eq_true rfl⟩) (z_pV (ci := 6) hK hP hD zX_nil [0] (by decide) rfl rfl 0 rfl) rfl rfl hl.1 rfl (lv_room (Nat.le_of_ble_eq_true rfl)) dX6_usualSpan_4 ⟨Nat.le_of_ble_eq_true rfl, Nat.le_of_ble_eq_true rfl⟩) hP hD hS hA [0] [] [0] rfl rfl (by decide) (by decide) (fun _ => rfl) (by decide) (fun r2 u1 H locs hp3 hP hD hS => ?_)
  have hP : va_P (dC, dI) vwCl [(h0, .inr (6, [.long h0_n, .long h0_school, .long h0_wage, .long h0_gift, .long h0_others, .long h0_otherSchool, .long h0_otherWage, .long h0_otherGift, .long h0_schoolSchool, .long h0_schoolWage, .long h0_wageWage]))] H := hP
  have hD : va_D A [(h0, .inr (6, [.long h0_n, .long h0_school, .long h0_wage, .long h0_gift, .long h0_others, .long h0_otherSchool, .long h0_otherWage, .long h0_otherGift, .long h0_schoolSchool, .long h0_schoolWage, .long h0_wageWage]))] := hD
  have hp3 : (True) ∨ (r2 = 0 ∧ ((p2.toInt < 0 ∨ 2 < p2.toInt) ∨ (p2.toInt < 0 ∨ 2 < p2.toInt))) ∨ (r2 = 1 ∧ ((p2.toInt < 0 ∨ 2 < p2.toInt))) := hp3
  rcases hp3 with f4 | f5 | f6
  · exact y_iret () hx hb hr hlocks hK hP hD hS hAe hQ rfl (Or.inl trivial) dX6_usualSpan_7
  · obtain ⟨rfl, f5⟩ := f5
    exact y_iret () hx hb hr hlocks hK hP hD hS hAe hQ rfl (Or.inr (Or.inl ⟨rfl, f5⟩)) dX6_usualSpan_7
  · obtain ⟨rfl, f6⟩ := f6
    exact y_iret () hx hb hr hlocks hK hP hD hS hAe hQ rfl (Or.inr (Or.inr ⟨rfl, f6⟩)) dX6_usualSpan_7
set_option maxHeartbeats 8000000 in
set_option maxRecDepth 100000 in
theorem k_X7_addFour (l : Launch) (dC : Nat → ClassId) (dI : Nat → Nat → Nat) (cB cI cJ cZ cP cQ : ClassId) (h0 : Nat) (h0_text : Nat) (sz : Nat) (p1 : Int32) (h0_length : Int32) (h0_fault : Int32) (h0_place : Int32) (h0_next : Int32) (h0_kind : Int32) (h0_start : Int32) (h0_value : Int32) (h0_text_f : Nat → Int32) (e0 : 0 ≤ h0_length.toInt) (e1 : h0_length.toInt ≤ 600) (e2 : 0 ≤ h0_next.toInt) (e3 : h0_next.toInt ≤ 600) (e4 : 0 ≤ h0_start.toInt) (e5 : h0_start.toInt ≤ 600) : Met l yX7_addFour wsX7_addFour ({ frames := 0, cells := 0, slots := 0, locals := 0 } : Room) (zPc [.ref h0, .int p1] (dC, dI) (zT cB cI cJ cZ cP cQ) [(h0, .inr (7, [.ref h0_text, .int h0_length, .int h0_fault, .int h0_place, .int h0_next, .int h0_kind, .int h0_start, .int h0_value])), (h0_text, .inl (cB, 600, .inl h0_text_f))] sz [] []) (va_Qv (fun (u : Int32 × (Nat → Int32)) => 0 ≤ u.1.toInt ∧ u.1.toInt ≤ 600 ∧ 0 ≤ h0_next.toInt ∧ h0_next.toInt ≤ 600 ∧ 0 ≤ h0_start.toInt ∧ h0_start.toInt ≤ 600) (zB (dC, dI) (zT cB cI cJ cZ cP cQ) (fun u : Int32 × (Nat → Int32) => [(h0, .inr (7, [.ref h0_text, .int u.1, .int h0_fault, .int h0_place, .int h0_next, .int h0_kind, .int h0_start, .int h0_value])), (h0_text, .inl (cB, 600, .inl u.2))]) [(h0, .inr (7, [.ref h0_text, .int h0_length, .int h0_fault, .int h0_place, .int h0_next, .int h0_kind, .int h0_start, .int h0_value])), (h0_text, .inl (cB, 600, .inl h0_text_f))] sz) (va_A [(h0, .inr (7, [.ref h0_text, .int h0_length, .int h0_fault, .int h0_place, .int h0_next, .int h0_kind, .int h0_start, .int h0_value])), (h0_text, .inl (cB, 600, .inl h0_text_f))] sz)) 0 0 (va_A [(h0, .inr (7, [.ref h0_text, .int h0_length, .int h0_fault, .int h0_place, .int h0_next, .int h0_kind, .int h0_start, .int h0_value])), (h0_text, .inl (cB, 600, .inl h0_text_f))] sz) := by
  refine z_enter (cc := cX7_addFour) (maxL := 3) (ret := none) (by decide) rfl (Nat.le_of_ble_eq_true rfl) ?_
  intro p e s m below meth c A ls Q H locs hx hb hr hml hown hts hlocks hin hK hP hD hA hX hS hAe hQ hl
  have hown : s.vm.findClass RX7 = some m.cls := hown
  have hi7 : ∀ w ∈ wsX70, w ∈ wsX7_addFour := fun w h => List.mem_cons_of_mem _ (List.mem_append_right _ h)
  have hk0 := hts (.fieldLink RX7 19 "MonthPush$Tape" "length" "I") (List.mem_of_getElem? (i := 1) rfl)
  have hk1 := hts (.fieldLink RX7 9 "MonthPush$Tape" "text" "[B") (List.mem_of_getElem? (i := 2) rfl)
  have hl : lv_has ls 3 [(0, .ref h0), (1, .int p1)] := hl
  refine lv_bipush (v := 24) hx hb dX7_addFour_0 (by decide) ?_
  refine lv_istore_n (lv' := [(2, .int 24), (0, .ref h0), (1, .int p1)]) hx hb dX7_addFour_2 rfl hl (by decide) rfl (fun ls hl => ?_)
  have hlp4 : ∀ (n5 : Nat) (x1 : Int32) (x2 : Int32) (g3 : Nat → Int32), x1.toInt + 8 < (n5 : Int) → 0 ≤ x2.toInt → x2.toInt ≤ 600 → 0 ≤ h0_next.toInt → h0_next.toInt ≤ 600 → 0 ≤ h0_start.toInt → h0_start.toInt ≤ 600 → -8 ≤ x1.toInt → x1.toInt ≤ 24 → ∀ (H : Heap) (locs : List Loc), va_P (dC, dI) vwCl [(h0, .inr (7, [.ref h0_text, .int x2, .int h0_fault, .int h0_place, .int h0_next, .int h0_kind, .int h0_start, .int h0_value])), (h0_text, .inl (cB, 600, .inl g3))] H → va_D A [(h0, .inr (7, [.ref h0_text, .int x2, .int h0_fault, .int h0_place, .int h0_next, .int h0_kind, .int h0_start, .int h0_value])), (h0_text, .inl (cB, 600, .inl g3))] → va_S A s.heap H locs → ∀ (ls : Array Slot), lv_has ls 3 [(2, .int x1), (0, .ref h0), (1, .int p1)] → W p l e ({ frames := 0, cells := 0, slots := 0, locals := 0 } : Room) s m ([.ref h0, .int p1] : List Value).toArray below meth c H locs 0 0 Q (F0 m 3 ls []) := by
    intro n5
    induction n5 with
    | zero =>
      intro x1 x2 g3 hm14 k6 k7 k8 k9 k10 k11 k12 k13
      exact absurd hm14 (by omega)
    | succ n5 ih15 =>
      intro x1 x2 g3 hm14 k6 k7 k8 k9 k10 k11 k12 k13 H locs hP hD hS ls hl
      refine lv_iload_n hx hb dX7_addFour_3 rfl (lv_at hl 0 rfl) ?_
      refine lv_if_lt (tgt := 46) hx hb dX7_addFour_4 (by decide) (fun c_16 => ?_) (fun c_16 => ?_)
      · have f17 : x1.toInt < 0 := z_lt rfl (show Int32.toInt 0 = 0 from by decide) c_16
        exact y_vret ((x2, g3) : Int32 × (Nat → Int32)) hx hb hr hlocks hK hP hD hS hAe hQ rfl ⟨(show 0 ≤ x2.toInt from by omega), (show x2.toInt ≤ 600 from by omega), (show 0 ≤ h0_next.toInt from by omega), (show h0_next.toInt ≤ 600 from by omega), (show 0 ≤ h0_start.toInt from by omega), (show h0_start.toInt ≤ 600 from by omega)⟩ dX7_addFour_46
      · have f17 : 0 ≤ x1.toInt := z_nlt rfl (show Int32.toInt 0 = 0 from by decide) c_16
        refine lv_aload_n hx hb dX7_addFour_7 rfl (lv_at hl 1 rfl) ?_
        refine va_get (D := (dC, dI)) (ci := 7) (v := .int x2) (C := RX7) (T := TX7) (N := 8) hx hb hts hi7 hown hK hP 0 rfl rfl 1 (by decide) hk0 (fun _ h9 => h9) rfl dX7_addFour_8 ?_
        refine lv_sipush (v := 600) hx hb dX7_addFour_11 (by decide) ?_
        refine lv_icmp_ge (tgt := 46) hx hb dX7_addFour_14 (by decide) (fun c_18 => ?_) (fun c_18 => ?_)
        · have f19 : 600 ≤ x2.toInt := z_le (show Int32.toInt 600 = 600 from by decide) rfl c_18
          exact y_vret ((x2, g3) : Int32 × (Nat → Int32)) hx hb hr hlocks hK hP hD hS hAe hQ rfl ⟨(show 0 ≤ x2.toInt from by omega), (show x2.toInt ≤ 600 from by omega), (show 0 ≤ h0_next.toInt from by omega), (show h0_next.toInt ≤ 600 from by omega), (show 0 ≤ h0_start.toInt from by omega), (show h0_start.toInt ≤ 600 from by omega)⟩ dX7_addFour_46
        · have f19 : x2.toInt < 600 := z_nle (show Int32.toInt 600 = 600 from by decide) rfl c_18
          refine lv_aload_n hx hb dX7_addFour_17 rfl (lv_at hl 1 rfl) ?_
          refine va_get (D := (dC, dI)) (ci := 7) (v := .ref h0_text) (C := RX7) (T := TX7) (N := 8) hx hb hts hi7 hown hK hP 0 rfl rfl 0 (by decide) hk1 (fun _ h9 => h9) rfl dX7_addFour_18 ?_
          refine lv_aload_n hx hb dX7_addFour_21 rfl (lv_at hl 1 rfl) ?_
          refine va_get (D := (dC, dI)) (ci := 7) (v := .int x2) (C := RX7) (T := TX7) (N := 8) hx hb hts hi7 hown hK hP 0 rfl rfl 1 (by decide) hk0 (fun _ h9 => h9) rfl dX7_addFour_22 ?_
          refine lv_iload_n hx hb dX7_addFour_25 rfl (lv_at hl 2 rfl) ?_
          refine lv_iload_n hx hb dX7_addFour_26 rfl (lv_at hl 0 rfl) ?_
          refine lv_ishr hx hb dX7_addFour_27 ?_
          refine lv_topi (fun r20 _ => ?_)
          refine lv_i2b hx hb dX7_addFour_28 rfl ?_
          refine lv_topi (fun r21 _ => ?_)
          refine y_bast hx hb hK hP hD hS 1 0 rfl rfl (z_in rfl (by omega) (by omega)) dX7_addFour_29 (fun H locs g22 h23 hP hD hS => ?_)
          have hP : va_P (dC, dI) vwCl [(h0, .inr (7, [.ref h0_text, .int x2, .int h0_fault, .int h0_place, .int h0_next, .int h0_kind, .int h0_start, .int h0_value])), (h0_text, .inl (cB, 600, .inl g22))] H := hP
          have hD : va_D A [(h0, .inr (7, [.ref h0_text, .int x2, .int h0_fault, .int h0_place, .int h0_next, .int h0_kind, .int h0_start, .int h0_value])), (h0_text, .inl (cB, 600, .inl g22))] := hD
          refine lv_aload_n hx hb dX7_addFour_30 rfl (lv_at hl 1 rfl) ?_
          refine lv_dup hx hb dX7_addFour_31 rfl ?_
          refine va_get (D := (dC, dI)) (ci := 7) (v := .int x2) (C := RX7) (T := TX7) (N := 8) hx hb hts hi7 hown hK hP 0 rfl rfl 1 (by decide) hk0 (fun _ h9 => h9) rfl dX7_addFour_32 ?_
          refine lv_iconst (v := 1) hx hb dX7_addFour_35 (by decide) ?_
          refine lv_iadd hx hb dX7_addFour_36 ?_
          refine lv_topi (fun r24 h25 => ?_)
          have f26 : r24.toInt = x2.toInt + 1 := z_iadd h25 rfl (show Int32.toInt 1 = 1 from by decide) (by omega) (by omega)
          refine va_put (D := (dC, dI)) (ci := 7) (v := .int r24) (ty := .int) (C := RX7) (T := TX7) (N := 8) hx hb hts hi7 tyX7 tyX7_ok nmX7 hown hK hP hD hS 0 rfl rfl 1 (by decide) hk0 (fun _ h9 => h9) rfl (by decide +kernel) rfl rfl (Nat.le_of_ble_eq_true rfl) dX7_addFour_37 (fun H locs hP hD hS => ?_)
          have hP : va_P (dC, dI) vwCl [(h0, .inr (7, [.ref h0_text, .int r24, .int h0_fault, .int h0_place, .int h0_next, .int h0_kind, .int h0_start, .int h0_value])), (h0_text, .inl (cB, 600, .inl g22))] H := hP
          have hD : va_D A [(h0, .inr (7, [.ref h0_text, .int r24, .int h0_fault, .int h0_place, .int h0_next, .int h0_kind, .int h0_start, .int h0_value])), (h0_text, .inl (cB, 600, .inl g22))] := hD
          obtain ⟨r27, h28⟩ : ∃ q : Int32, q = x1 + (-8) := ⟨_, rfl⟩
          have f29 : r27.toInt = x1.toInt + (-8) := z_iadd h28 rfl (by decide) (by omega) (by omega)
          refine lv_iinc (v := r27) (lv' := [(2, .int r27), (0, .ref h0), (1, .int p1)]) hx hb dX7_addFour_40 hl (k := 0) rfl h28.symm (by decide) rfl (fun ls hl => ?_)
          refine lv_goto (tgt := 3) hx hb dX7_addFour_43 (by decide) ?_
          exact ih15 r27 r24 g22 (show r27.toInt + 8 < (n5 : Int) from by omega) (show 0 ≤ r24.toInt from by omega) (show r24.toInt ≤ 600 from by omega) (show 0 ≤ h0_next.toInt from by omega) (show h0_next.toInt ≤ 600 from by omega) (show 0 ≤ h0_start.toInt from by omega) (show h0_start.toInt ≤ 600 from by omega) (show -8 ≤ r27.toInt from by omega) (show r27.toInt ≤ 24 from by omega) _ _ hP hD hS ls (lv_sub hl [0, 1, 2] rfl)
  exact hlp4 ((24 : Int) + 8 + 1).toNat 24 h0_length h0_text_f (show (24 : Int) + 8 < (((24 : Int) + 8 + 1).toNat : Int) from by omega) (show 0 ≤ h0_length.toInt from by omega) (show h0_length.toInt ≤ 600 from by omega) (show 0 ≤ h0_next.toInt from by omega) (show h0_next.toInt ≤ 600 from by omega) (show 0 ≤ h0_start.toInt from by omega) (show h0_start.toInt ≤ 600 from by omega) (show -8 ≤ (24 : Int) from by omega) (show (24 : Int) ≤ 24 from by omega) _ _ hP hD hS ls (lv_sub hl [0, 1, 2] rfl)
set_option maxHeartbeats 8000000 in
set_option maxRecDepth 100000 in
theorem k_X7_isDigit (l : Launch) (dC : Nat → ClassId) (dI : Nat → Nat → Nat) (cB cI cJ cZ cP cQ : ClassId) (sz : Nat) (p0 : Int32) : Met l yX7_isDigit wsX7_isDigit ({ frames := 0, cells := 0, slots := 0, locals := 0 } : Room) (zPc [.int p0] (dC, dI) (zT cB cI cJ cZ cP cQ) [] sz [] []) (va_Qi (fun (r : Int32) (u : Unit) => (r = 0 ∧ (p0.toInt < 48 ∨ (48 ≤ p0.toInt ∧ 57 < p0.toInt))) ∨ (r = 1 ∧ 48 ≤ p0.toInt ∧ p0.toInt ≤ 57)) (zB (dC, dI) (zT cB cI cJ cZ cP cQ) (fun u : Unit => []) [] sz) (va_A [] sz)) 0 0 (va_A [] sz) := by
  refine z_enter (cc := cX7_isDigit) (maxL := 1) (ret := (some .boolean)) (by decide) rfl (Nat.le_of_ble_eq_true rfl) ?_
  intro p e s m below meth c A ls Q H locs hx hb hr hml hown hts hlocks hin hK hP hD hA hX hS hAe hQ hl
  have hown : s.vm.findClass RX7 = some m.cls := hown
  have hl : lv_has ls 1 [(0, .int p0)] := hl
  refine lv_iload_n hx hb dX7_isDigit_0 rfl (lv_at hl 0 rfl) ?_
  refine lv_bipush (v := 48) hx hb dX7_isDigit_1 (by decide) ?_
  refine lv_icmp_lt (tgt := 16) hx hb dX7_isDigit_3 (by decide) (fun c_1 => ?_) (fun c_1 => ?_)
  · have f2 : p0.toInt < 48 := z_lt rfl (show Int32.toInt 48 = 48 from by decide) c_1
    refine lv_iconst (v := 0) hx hb dX7_isDigit_16 (by decide) ?_
    exact y_zret () hx hb hr hlocks hK hP hD hS hAe hQ rfl (Or.inl ⟨rfl, (Or.inl f2)⟩) (by decide) dX7_isDigit_17
  · have f2 : 48 ≤ p0.toInt := z_nlt rfl (show Int32.toInt 48 = 48 from by decide) c_1
    refine lv_iload_n hx hb dX7_isDigit_6 rfl (lv_at hl 0 rfl) ?_
    refine lv_bipush (v := 57) hx hb dX7_isDigit_7 (by decide) ?_
    refine lv_icmp_gt (tgt := 16) hx hb dX7_isDigit_9 (by decide) (fun c_3 => ?_) (fun c_3 => ?_)
    · have f4 : 57 < p0.toInt := z_lt (show Int32.toInt 57 = 57 from by decide) rfl c_3
      refine lv_iconst (v := 0) hx hb dX7_isDigit_16 (by decide) ?_
      exact y_zret () hx hb hr hlocks hK hP hD hS hAe hQ rfl (Or.inl ⟨rfl, (Or.inr ⟨f2, f4⟩)⟩) (by decide) dX7_isDigit_17
    · have f4 : p0.toInt ≤ 57 := z_nlt (show Int32.toInt 57 = 57 from by decide) rfl c_3
      refine lv_iconst (v := 1) hx hb dX7_isDigit_12 (by decide) ?_
      refine lv_goto (tgt := 17) hx hb dX7_isDigit_13 (by decide) ?_
      exact y_zret () hx hb hr hlocks hK hP hD hS hAe hQ rfl (Or.inr ⟨rfl, ⟨f2, f4⟩⟩) (by decide) dX7_isDigit_17
set_option maxHeartbeats 8000000 in
set_option maxRecDepth 100000 in
theorem k_X7_isLetter (l : Launch) (dC : Nat → ClassId) (dI : Nat → Nat → Nat) (cB cI cJ cZ cP cQ : ClassId) (sz : Nat) (p0 : Int32) : Met l yX7_isLetter wsX7_isLetter ({ frames := 0, cells := 0, slots := 0, locals := 0 } : Room) (zPc [.int p0] (dC, dI) (zT cB cI cJ cZ cP cQ) [] sz [] []) (va_Qi (fun (r : Int32) (u : Unit) => (r = 0 ∧ (p0.toInt < 97 ∨ (97 ≤ p0.toInt ∧ 122 < p0.toInt))) ∨ (r = 1 ∧ 97 ≤ p0.toInt ∧ p0.toInt ≤ 122)) (zB (dC, dI) (zT cB cI cJ cZ cP cQ) (fun u : Unit => []) [] sz) (va_A [] sz)) 0 0 (va_A [] sz) := by
  refine z_enter (cc := cX7_isLetter) (maxL := 1) (ret := (some .boolean)) (by decide) rfl (Nat.le_of_ble_eq_true rfl) ?_
  intro p e s m below meth c A ls Q H locs hx hb hr hml hown hts hlocks hin hK hP hD hA hX hS hAe hQ hl
  have hown : s.vm.findClass RX7 = some m.cls := hown
  have hl : lv_has ls 1 [(0, .int p0)] := hl
  refine lv_iload_n hx hb dX7_isLetter_0 rfl (lv_at hl 0 rfl) ?_
  refine lv_bipush (v := 97) hx hb dX7_isLetter_1 (by decide) ?_
  refine lv_icmp_lt (tgt := 16) hx hb dX7_isLetter_3 (by decide) (fun c_1 => ?_) (fun c_1 => ?_)
  · have f2 : p0.toInt < 97 := z_lt rfl (show Int32.toInt 97 = 97 from by decide) c_1
    refine lv_iconst (v := 0) hx hb dX7_isLetter_16 (by decide) ?_
    exact y_zret () hx hb hr hlocks hK hP hD hS hAe hQ rfl (Or.inl ⟨rfl, (Or.inl f2)⟩) (by decide) dX7_isLetter_17
  · have f2 : 97 ≤ p0.toInt := z_nlt rfl (show Int32.toInt 97 = 97 from by decide) c_1
    refine lv_iload_n hx hb dX7_isLetter_6 rfl (lv_at hl 0 rfl) ?_
    refine lv_bipush (v := 122) hx hb dX7_isLetter_7 (by decide) ?_
    refine lv_icmp_gt (tgt := 16) hx hb dX7_isLetter_9 (by decide) (fun c_3 => ?_) (fun c_3 => ?_)
    · have f4 : 122 < p0.toInt := z_lt (show Int32.toInt 122 = 122 from by decide) rfl c_3
      refine lv_iconst (v := 0) hx hb dX7_isLetter_16 (by decide) ?_
      exact y_zret () hx hb hr hlocks hK hP hD hS hAe hQ rfl (Or.inl ⟨rfl, (Or.inr ⟨f2, f4⟩)⟩) (by decide) dX7_isLetter_17
    · have f4 : p0.toInt ≤ 122 := z_nlt (show Int32.toInt 122 = 122 from by decide) rfl c_3
      refine lv_iconst (v := 1) hx hb dX7_isLetter_12 (by decide) ?_
      refine lv_goto (tgt := 17) hx hb dX7_isLetter_13 (by decide) ?_
      exact y_zret () hx hb hr hlocks hK hP hD hS hAe hQ rfl (Or.inr ⟨rfl, ⟨f2, f4⟩⟩) (by decide) dX7_isLetter_17
set_option maxHeartbeats 8000000 in
set_option maxRecDepth 100000 in
theorem k_X7_isWord (l : Launch) (dC : Nat → ClassId) (dI : Nat → Nat → Nat) (cB cI cJ cZ cP cQ : ClassId) (adK adV : Nat → Nat) (q0 : Option Nat) (h0 : Nat) (h0_text : Nat) (sz : Nat) (i1 : Nat) (h0_length : Int32) (h0_fault : Int32) (h0_place : Int32) (h0_next : Int32) (h0_kind : Int32) (h0_start : Int32) (h0_value : Int32) (h0_text_f : Nat → Int32) (e0 : i1 < 20) (e1 : 0 ≤ h0_length.toInt) (e2 : h0_length.toInt ≤ 600) (e3 : 0 ≤ h0_next.toInt) (e4 : h0_next.toInt ≤ 600) (e5 : 0 ≤ h0_start.toInt) (e6 : h0_start.toInt ≤ 600) : Met l yX7_isWord wsX7_isWord ({ frames := 4, cells := 0, slots := 0, locals := 141 } : Room) (sPc [.ref h0, .ref (adK i1)] (dC, dI) (zT cB cI cJ cZ cP cQ) [(h0, .inr (7, [.ref h0_text, .int h0_length, .int h0_fault, .int h0_place, .int h0_next, .int h0_kind, .int h0_start, .int h0_value])), (h0_text, .inl (cB, 600, .inl h0_text_f))] sz [] [] adK adV q0) (va_Qi (fun (r : Int32) (u : Unit) => (r = 0 ∧ (¬ h0_kind.toInt = 1 ∨ h0_kind.toInt = 1 ∨ h0_kind.toInt = 1)) ∨ (r = 1 ∧ h0_kind.toInt = 1)) (zB (dC, dI) (zT cB cI cJ cZ cP cQ) (fun u : Unit => [(h0, .inr (7, [.ref h0_text, .int h0_length, .int h0_fault, .int h0_place, .int h0_next, .int h0_kind, .int h0_start, .int h0_value])), (h0_text, .inl (cB, 600, .inl h0_text_f))]) [(h0, .inr (7, [.ref h0_text, .int h0_length, .int h0_fault, .int h0_place, .int h0_next, .int h0_kind, .int h0_start, .int h0_value])), (h0_text, .inl (cB, 600, .inl h0_text_f))] sz) (va_A [(h0, .inr (7, [.ref h0_text, .int h0_length, .int h0_fault, .int h0_place, .int h0_next, .int h0_kind, .int h0_start, .int h0_value])), (h0_text, .inl (cB, 600, .inl h0_text_f))] sz)) 0 0 (va_A [(h0, .inr (7, [.ref h0_text, .int h0_length, .int h0_fault, .int h0_place, .int h0_next, .int h0_kind, .int h0_start, .int h0_value])), (h0_text, .inl (cB, 600, .inl h0_text_f))] sz) := by
  refine s_enter (cc := cX7_isWord) (maxL := 3) (ret := (some .boolean)) (by decide) rfl (Nat.le_of_ble_eq_true rfl) ?_
  intro p e s m below meth c A ls Q H locs hx hb hr hml hown hts hlocks hin hK hP hD hA hX hS hAe hQ hl hE
  have hown : s.vm.findClass RX7 = some m.cls := hown
  have hi7 : ∀ w ∈ wsX70, w ∈ wsX7_isWord := fun w h => List.mem_cons_of_mem _ (List.mem_append_right _ h)
  have hk0 := hts (.fieldLink RX7 36 "MonthPush$Tape" "kind" "I") (List.mem_of_getElem? (i := 1) rfl)
  have hk1 := hts (.fieldLink RX7 25 "MonthPush$Tape" "next" "I") (List.mem_of_getElem? (i := 2) rfl)
  have hk2 := hts (.fieldLink RX7 170 "MonthPush$Tape" "start" "I") (List.mem_of_getElem? (i := 3) rfl)
  have hk3 := hts (.fieldLink RX7 9 "MonthPush$Tape" "text" "[B") (List.mem_of_getElem? (i := 4) rfl)
  have hl : lv_has ls 3 [(0, .ref h0), (1, .ref (adK i1))] := hl
  refine lv_aload_n hx hb dX7_isWord_0 rfl (lv_at hl 0 rfl) ?_
  refine va_get (D := (dC, dI)) (ci := 7) (v := .int h0_kind) (C := RX7) (T := TX7) (N := 8) hx hb hts hi7 hown hK hP 0 rfl rfl 5 (by decide) hk0 (fun _ h9 => h9) rfl dX7_isWord_1 ?_
  refine lv_iconst (v := 1) hx hb dX7_isWord_4 (by decide) ?_
  refine lv_icmp_ne (tgt := 24) hx hb dX7_isWord_5 (by decide) (fun c_1 => ?_) (fun c_1 => ?_)
  · have f2 : ¬ h0_kind.toInt = 1 := z_ne rfl (show Int32.toInt 1 = 1 from by decide) c_1
    refine lv_iconst (v := 0) hx hb dX7_isWord_24 (by decide) ?_
    exact y_zret () hx hb hr hlocks hK hP hD hS hAe hQ rfl (Or.inl ⟨rfl, (Or.inl f2)⟩) (by decide) dX7_isWord_25
  · have f2 : h0_kind.toInt = 1 := z_eq rfl (show Int32.toInt 1 = 1 from by decide) c_1
    refine lv_aload_n hx hb dX7_isWord_8 rfl (lv_at hl 0 rfl) ?_
    refine va_get (D := (dC, dI)) (ci := 7) (v := .int h0_next) (C := RX7) (T := TX7) (N := 8) hx hb hts hi7 hown hK hP 0 rfl rfl 4 (by decide) hk1 (fun _ h9 => h9) rfl dX7_isWord_9 ?_
    refine lv_aload_n hx hb dX7_isWord_12 rfl (lv_at hl 0 rfl) ?_
    refine va_get (D := (dC, dI)) (ci := 7) (v := .int h0_start) (C := RX7) (T := TX7) (N := 8) hx hb hts hi7 hown hK hP 0 rfl rfl 6 (by decide) hk2 (fun _ h9 => h9) rfl dX7_isWord_13 ?_
    refine lv_isub hx hb dX7_isWord_16 ?_
    refine lv_topi (fun r3 h4 => ?_)
    have f5 : r3.toInt = h0_next.toInt - h0_start.toInt := z_isub h4 rfl rfl (by omega) (by omega)
    refine lv_aload_n hx hb dX7_isWord_17 rfl (lv_at hl 1 rfl) ?_
    refine y_fini (w' := fun (_ : Unit) => [(h0, .inr (7, [.ref h0_text, .int h0_length, .int h0_fault, .int h0_place, .int h0_next, .int h0_kind, .int h0_start, .int h0_value])), (h0_text, .inl (cB, 600, .inl h0_text_f))]) (va_runV (As := []) (rest := [.int r3]) ⟨hx, hb, hml, hown, hts⟩ (k_length l dC dI cB cI cJ cZ cP cQ adK adV q0 H.size i1 (by assumption)) (cwV 0 hts gX7_isWord_J0_length_8abf5 rfl rfl rfl (by decide +kernel) ⟨Nat.le_of_ble_eq_true rfl, Nat.le_of_ble_eq_true rfl⟩) (s_pT hE (by assumption) hS hA hK hP hD zX_nil [] (by decide) rfl) rfl rfl hl.1 rfl (lv_room (Nat.le_of_ble_eq_true rfl)) dX7_isWord_18 ⟨Nat.le_of_ble_eq_true rfl, Nat.le_of_ble_eq_true rfl⟩) hP hD hS hA [] [0, 1] [0, 1] rfl rfl (by decide) (by decide) (fun _ => rfl) (by decide) (fun r6 _ H locs hp7 hP hD hS => ?_)
    have hP : va_P (dC, dI) vwCl [(h0, .inr (7, [.ref h0_text, .int h0_length, .int h0_fault, .int h0_place, .int h0_next, .int h0_kind, .int h0_start, .int h0_value])), (h0_text, .inl (cB, 600, .inl h0_text_f))] H := hP
    have hD : va_D A [(h0, .inr (7, [.ref h0_text, .int h0_length, .int h0_fault, .int h0_place, .int h0_next, .int h0_kind, .int h0_start, .int h0_value])), (h0_text, .inl (cB, 600, .inl h0_text_f))] := hD
    have f8 : r6.toInt = ((zsLen.getD i1 0 : Nat) : Int) := hp7
    refine lv_icmp_eq (tgt := 26) hx hb dX7_isWord_21 (by decide) (fun c_9 => ?_) (fun c_9 => ?_)
    · have f10 : r3.toInt = r6.toInt := z_eq rfl rfl c_9
      have f11 : ((zsLen.getD i1 0 : Nat) : Int) ≤ 6 := by have := (zs_all i1 (by assumption)).1; omega
      refine lv_iconst (v := 0) hx hb dX7_isWord_26 (by decide) ?_
      refine lv_istore_n (lv' := [(2, .int 0), (0, .ref h0), (1, .ref (adK i1))]) hx hb dX7_isWord_27 rfl hl (by decide) rfl (fun ls hl => ?_)
      have hlp13 : ∀ (n14 : Nat) (x12 : Int32), ((zsLen.getD i1 0 : Nat) : Int) - x12.toInt < (n14 : Int) → 0 ≤ x12.toInt → x12.toInt ≤ 6 → x12.toInt ≤ ((zsLen.getD i1 0 : Nat) : Int) → ∀ (H : Heap) (locs : List Loc), va_P (dC, dI) vwCl [(h0, .inr (7, [.ref h0_text, .int h0_length, .int h0_fault, .int h0_place, .int h0_next, .int h0_kind, .int h0_start, .int h0_value])), (h0_text, .inl (cB, 600, .inl h0_text_f))] H → va_D A [(h0, .inr (7, [.ref h0_text, .int h0_length, .int h0_fault, .int h0_place, .int h0_next, .int h0_kind, .int h0_start, .int h0_value])), (h0_text, .inl (cB, 600, .inl h0_text_f))] → va_S A s.heap H locs → ∀ (ls : Array Slot), lv_has ls 3 [(2, .int x12), (0, .ref h0), (1, .ref (adK i1))] → W p l e ({ frames := 4, cells := 0, slots := 0, locals := 141 } : Room) s m ([.ref h0, .ref (adK i1)] : List Value).toArray below meth c H locs 0 0 Q (F0 m 28 ls []) := by
        intro n14
        induction n14 with
        | zero =>
          intro x12 hm18 k15 k16 k17
          exact absurd hm18 (by omega)
        | succ n14 ih19 =>
          intro x12 hm18 k15 k16 k17 H locs hP hD hS ls hl
          refine lv_iload_n hx hb dX7_isWord_28 rfl (lv_at hl 0 rfl) ?_
          refine lv_aload_n hx hb dX7_isWord_29 rfl (lv_at hl 2 rfl) ?_
          refine y_fini (w' := fun (_ : Unit) => [(h0, .inr (7, [.ref h0_text, .int h0_length, .int h0_fault, .int h0_place, .int h0_next, .int h0_kind, .int h0_start, .int h0_value])), (h0_text, .inl (cB, 600, .inl h0_text_f))]) (va_runV (As := []) (rest := [.int x12]) ⟨hx, hb, hml, hown, hts⟩ (k_length l dC dI cB cI cJ cZ cP cQ adK adV q0 H.size i1 (by assumption)) (cwV 0 hts gX7_isWord_J0_length_8abf5 rfl rfl rfl (by decide +kernel) ⟨Nat.le_of_ble_eq_true rfl, Nat.le_of_ble_eq_true rfl⟩) (s_pT hE (by assumption) hS hA hK hP hD zX_nil [] (by decide) rfl) rfl rfl hl.1 rfl (lv_room (Nat.le_of_ble_eq_true rfl)) dX7_isWord_30 ⟨Nat.le_of_ble_eq_true rfl, Nat.le_of_ble_eq_true rfl⟩) hP hD hS hA [] [0, 1] [0, 1] rfl rfl (by decide) (by decide) (fun _ => rfl) (by decide) (fun r20 _ H locs hp21 hP hD hS => ?_)
          have hP : va_P (dC, dI) vwCl [(h0, .inr (7, [.ref h0_text, .int h0_length, .int h0_fault, .int h0_place, .int h0_next, .int h0_kind, .int h0_start, .int h0_value])), (h0_text, .inl (cB, 600, .inl h0_text_f))] H := hP
          have hD : va_D A [(h0, .inr (7, [.ref h0_text, .int h0_length, .int h0_fault, .int h0_place, .int h0_next, .int h0_kind, .int h0_start, .int h0_value])), (h0_text, .inl (cB, 600, .inl h0_text_f))] := hD
          have f22 : r20.toInt = ((zsLen.getD i1 0 : Nat) : Int) := hp21
          refine lv_icmp_ge (tgt := 63) hx hb dX7_isWord_33 (by decide) (fun c_23 => ?_) (fun c_23 => ?_)
          · have f24 : r20.toInt ≤ x12.toInt := z_le rfl rfl c_23
            refine lv_iconst (v := 1) hx hb dX7_isWord_63 (by decide) ?_
            exact y_zret () hx hb hr hlocks hK hP hD hS hAe hQ rfl (Or.inr ⟨rfl, f2⟩) (by decide) dX7_isWord_64
          · have f24 : x12.toInt < r20.toInt := z_nle rfl rfl c_23
            refine lv_aload_n hx hb dX7_isWord_36 rfl (lv_at hl 1 rfl) ?_
            refine va_get (D := (dC, dI)) (ci := 7) (v := .ref h0_text) (C := RX7) (T := TX7) (N := 8) hx hb hts hi7 hown hK hP 0 rfl rfl 0 (by decide) hk3 (fun _ h9 => h9) rfl dX7_isWord_37 ?_
            refine lv_aload_n hx hb dX7_isWord_40 rfl (lv_at hl 1 rfl) ?_
            refine va_get (D := (dC, dI)) (ci := 7) (v := .int h0_start) (C := RX7) (T := TX7) (N := 8) hx hb hts hi7 hown hK hP 0 rfl rfl 6 (by decide) hk2 (fun _ h9 => h9) rfl dX7_isWord_41 ?_
            refine lv_iload_n hx hb dX7_isWord_44 rfl (lv_at hl 0 rfl) ?_
            refine lv_iadd hx hb dX7_isWord_45 ?_
            refine lv_topi (fun r25 h26 => ?_)
            have f27 : r25.toInt = h0_start.toInt + x12.toInt := z_iadd h26 rfl rfl (by omega) (by omega)
            refine va_bald hx hb hK hP 1 0 rfl rfl (z_in rfl (by omega) (by omega)) dX7_isWord_46 ?_
            refine lv_aload_n hx hb dX7_isWord_47 rfl (lv_at hl 2 rfl) ?_
            refine lv_iload_n hx hb dX7_isWord_48 rfl (lv_at hl 0 rfl) ?_
            refine y_fini (w' := fun (_ : Unit) => [(h0, .inr (7, [.ref h0_text, .int h0_length, .int h0_fault, .int h0_place, .int h0_next, .int h0_kind, .int h0_start, .int h0_value])), (h0_text, .inl (cB, 600, .inl h0_text_f))]) (va_runV (As := [.int x12]) (rest := [.int (h0_text_f r25.toNatClampNeg)]) ⟨hx, hb, hml, hown, hts⟩ (k_charAt l dC dI cB cI cJ cZ cP cQ adK adV q0 H.size i1 (by assumption) x12 (show 0 ≤ x12.toInt from by omega) (show x12.toInt < ((zsLen.getD i1 0 : Nat) : Int) from by omega)) (cwV 1 hts gX7_isWord_J0_charAt_5068e rfl rfl rfl (by decide +kernel) ⟨Nat.le_of_ble_eq_true rfl, Nat.le_of_ble_eq_true rfl⟩) (s_pT hE (by assumption) hS hA hK hP hD zX_nil [] (by decide) rfl) rfl rfl hl.1 rfl (lv_room (Nat.le_of_ble_eq_true rfl)) dX7_isWord_49 ⟨Nat.le_of_ble_eq_true rfl, Nat.le_of_ble_eq_true rfl⟩) hP hD hS hA [] [0, 1] [0, 1] rfl rfl (by decide) (by decide) (fun _ => rfl) (by decide) (fun r28 _ H locs hp29 hP hD hS => ?_)
            have hP : va_P (dC, dI) vwCl [(h0, .inr (7, [.ref h0_text, .int h0_length, .int h0_fault, .int h0_place, .int h0_next, .int h0_kind, .int h0_start, .int h0_value])), (h0_text, .inl (cB, 600, .inl h0_text_f))] H := hP
            have hD : va_D A [(h0, .inr (7, [.ref h0_text, .int h0_length, .int h0_fault, .int h0_place, .int h0_next, .int h0_kind, .int h0_start, .int h0_value])), (h0_text, .inl (cB, 600, .inl h0_text_f))] := hD
            refine lv_icmp_eq (tgt := 57) hx hb dX7_isWord_52 (by decide) (fun c_30 => ?_) (fun c_30 => ?_)
            · have f31 : (h0_text_f r25.toNatClampNeg).toInt = r28.toInt := z_eq rfl rfl c_30
              obtain ⟨r32, h33⟩ : ∃ q : Int32, q = x12 + 1 := ⟨_, rfl⟩
              have f34 : r32.toInt = x12.toInt + 1 := z_iadd h33 rfl (by decide) (by omega) (by omega)
              refine lv_iinc (v := r32) (lv' := [(2, .int r32), (0, .ref h0), (1, .ref (adK i1))]) hx hb dX7_isWord_57 hl (k := 0) rfl h33.symm (by decide) rfl (fun ls hl => ?_)
              refine lv_goto (tgt := 28) hx hb dX7_isWord_60 (by decide) ?_
              exact ih19 r32 (show ((zsLen.getD i1 0 : Nat) : Int) - r32.toInt < (n14 : Int) from by omega) (show 0 ≤ r32.toInt from by omega) (show r32.toInt ≤ 6 from by omega) (show r32.toInt ≤ ((zsLen.getD i1 0 : Nat) : Int) from by omega) _ _ hP hD hS ls (lv_sub hl [0, 1, 2] rfl)
            · have f31 : ¬ (h0_text_f r25.toNatClampNeg).toInt = r28.toInt := z_ne rfl rfl c_30
              refine lv_iconst (v := 0) hx hb dX7_isWord_55 (by decide) ?_
              exact y_zret () hx hb hr hlocks hK hP hD hS hAe hQ rfl (Or.inl ⟨rfl, (Or.inr (Or.inl f2))⟩) (by decide) dX7_isWord_56
      exact hlp13 (((zsLen.getD i1 0 : Nat) : Int) - (0 : Int) + 1).toNat 0 (show ((zsLen.getD i1 0 : Nat) : Int) - (0 : Int) < ((((zsLen.getD i1 0 : Nat) : Int) - (0 : Int) + 1).toNat : Int) from by omega) (show 0 ≤ (0 : Int) from by omega) (show (0 : Int) ≤ 6 from by omega) (show (0 : Int) ≤ ((zsLen.getD i1 0 : Nat) : Int) from by omega) _ _ hP hD hS ls (lv_sub hl [0, 1, 2] rfl)
    · have f10 : ¬ r3.toInt = r6.toInt := z_ne rfl rfl c_9
      refine lv_iconst (v := 0) hx hb dX7_isWord_24 (by decide) ?_
      exact y_zret () hx hb hr hlocks hK hP hD hS hAe hQ rfl (Or.inl ⟨rfl, (Or.inr (Or.inr f2))⟩) (by decide) dX7_isWord_25
set_option maxHeartbeats 8000000 in
set_option maxRecDepth 100000 in
theorem k_X7_jointNamed (l : Launch) (dC : Nat → ClassId) (dI : Nat → Nat → Nat) (cB cI cJ cZ cP cQ : ClassId) (adK adV : Nat → Nat) (q0 : Option Nat) (h0 : Nat) (h0_text : Nat) (sz : Nat) (h0_length : Int32) (h0_fault : Int32) (h0_place : Int32) (h0_next : Int32) (h0_kind : Int32) (h0_start : Int32) (h0_value : Int32) (h0_text_f : Nat → Int32) (e0 : 0 ≤ h0_length.toInt) (e1 : h0_length.toInt ≤ 600) (e2 : 0 ≤ h0_next.toInt) (e3 : h0_next.toInt ≤ 600) (e4 : 0 ≤ h0_start.toInt) (e5 : h0_start.toInt ≤ 600) : Met l yX7_jointNamed wsX7_jointNamed ({ frames := 5, cells := 0, slots := 0, locals := 163 } : Room) (sPc [.ref h0] (dC, dI) (zT cB cI cJ cZ cP cQ) [(h0, .inr (7, [.ref h0_text, .int h0_length, .int h0_fault, .int h0_place, .int h0_next, .int h0_kind, .int h0_start, .int h0_value])), (h0_text, .inl (cB, 600, .inl h0_text_f))] sz [] [] adK adV q0) (va_Qi (fun (r : Int32) (u : Unit) => (r = (-1) ∧ ((¬ h0_kind.toInt = 1 ∨ h0_kind.toInt = 1 ∨ h0_kind.toInt = 1) ∧ (¬ h0_kind.toInt = 1 ∨ h0_kind.toInt = 1 ∨ h0_kind.toInt = 1) ∧ (¬ h0_kind.toInt = 1 ∨ h0_kind.toInt = 1 ∨ h0_kind.toInt = 1) ∧ (¬ h0_kind.toInt = 1 ∨ h0_kind.toInt = 1 ∨ h0_kind.toInt = 1))) ∨ (r = 3 ∧ ((¬ h0_kind.toInt = 1 ∨ h0_kind.toInt = 1 ∨ h0_kind.toInt = 1) ∧ (¬ h0_kind.toInt = 1 ∨ h0_kind.toInt = 1 ∨ h0_kind.toInt = 1) ∧ (¬ h0_kind.toInt = 1 ∨ h0_kind.toInt = 1 ∨ h0_kind.toInt = 1) ∧ h0_kind.toInt = 1)) ∨ (r = 2 ∧ ((¬ h0_kind.toInt = 1 ∨ h0_kind.toInt = 1 ∨ h0_kind.toInt = 1) ∧ (¬ h0_kind.toInt = 1 ∨ h0_kind.toInt = 1 ∨ h0_kind.toInt = 1) ∧ h0_kind.toInt = 1)) ∨ (r = 1 ∧ ((¬ h0_kind.toInt = 1 ∨ h0_kind.toInt = 1 ∨ h0_kind.toInt = 1) ∧ h0_kind.toInt = 1)) ∨ (r = 0 ∧ h0_kind.toInt = 1)) (zB (dC, dI) (zT cB cI cJ cZ cP cQ) (fun u : Unit => [(h0, .inr (7, [.ref h0_text, .int h0_length, .int h0_fault, .int h0_place, .int h0_next, .int h0_kind, .int h0_start, .int h0_value])), (h0_text, .inl (cB, 600, .inl h0_text_f))]) [(h0, .inr (7, [.ref h0_text, .int h0_length, .int h0_fault, .int h0_place, .int h0_next, .int h0_kind, .int h0_start, .int h0_value])), (h0_text, .inl (cB, 600, .inl h0_text_f))] sz) (va_A [(h0, .inr (7, [.ref h0_text, .int h0_length, .int h0_fault, .int h0_place, .int h0_next, .int h0_kind, .int h0_start, .int h0_value])), (h0_text, .inl (cB, 600, .inl h0_text_f))] sz)) 0 0 (va_A [(h0, .inr (7, [.ref h0_text, .int h0_length, .int h0_fault, .int h0_place, .int h0_next, .int h0_kind, .int h0_start, .int h0_value])), (h0_text, .inl (cB, 600, .inl h0_text_f))] sz) := by
  refine s_enter (cc := cX7_jointNamed) (maxL := 1) (ret := (some .int)) (by decide) rfl (Nat.le_of_ble_eq_true rfl) ?_
  intro p e s m below meth c A ls Q H locs hx hb hr hml hown hts hlocks hin hK hP hD hA hX hS hAe hQ hl hE
  have hown : s.vm.findClass RX7 = some m.cls := hown
  have hl : lv_has ls 1 [(0, .ref h0)] := hl
  refine lv_aload_n hx hb dX7_jointNamed_0 rfl (lv_at hl 0 rfl) ?_
  refine va_ldcS hx hb hown (hE.2.2.2 15 (by decide)) dX7_jointNamed_1 ?_
  refine y_fini (w' := fun (u1 : Unit) => [(h0, .inr (7, [.ref h0_text, .int h0_length, .int h0_fault, .int h0_place, .int h0_next, .int h0_kind, .int h0_start, .int h0_value])), (h0_text, .inl (cB, 600, .inl h0_text_f))]) (va_runV (As := [.ref (adK 15)]) (rest := []) ⟨hx, hb, hml, hown, hts⟩ (k_X7_isWord l dC dI cB cI cJ cZ cP cQ adK adV q0 h0 h0_text H.size 15 h0_length h0_fault h0_place h0_next h0_kind h0_start h0_value h0_text_f (show (15 ) < 20 from by omega) (show 0 ≤ h0_length.toInt from by omega) (show h0_length.toInt ≤ 600 from by omega) (show 0 ≤ h0_next.toInt from by omega) (show h0_next.toInt ≤ 600 from by omega) (show 0 ≤ h0_start.toInt from by omega) (show h0_start.toInt ≤ 600 from by omega)) (cwV 1 hts gX7_jointNamed_X7_isWord rfl rfl rfl ⟨rfl, hd_X7_isWord⟩ ⟨Nat.le_of_ble_eq_true rfl, Nat.le_of_ble_eq_true rfl⟩) (s_pV (ci := 7) hE hS hA hK hP hD zX_nil [0, 1] (by decide) rfl rfl 0 rfl) rfl rfl hl.1 rfl (lv_room (Nat.le_of_ble_eq_true rfl)) dX7_jointNamed_3 ⟨Nat.le_of_ble_eq_true rfl, Nat.le_of_ble_eq_true rfl⟩) hP hD hS hA [0, 1] [] [0, 1] rfl rfl (by decide) (by decide) (fun _ => rfl) (by decide) (fun r2 u1 H locs hp3 hP hD hS => ?_)
  have hP : va_P (dC, dI) vwCl [(h0, .inr (7, [.ref h0_text, .int h0_length, .int h0_fault, .int h0_place, .int h0_next, .int h0_kind, .int h0_start, .int h0_value])), (h0_text, .inl (cB, 600, .inl h0_text_f))] H := hP
  have hD : va_D A [(h0, .inr (7, [.ref h0_text, .int h0_length, .int h0_fault, .int h0_place, .int h0_next, .int h0_kind, .int h0_start, .int h0_value])), (h0_text, .inl (cB, 600, .inl h0_text_f))] := hD
  have hp3 : (r2 = 0 ∧ (¬ h0_kind.toInt = 1 ∨ h0_kind.toInt = 1 ∨ h0_kind.toInt = 1)) ∨ (r2 = 1 ∧ h0_kind.toInt = 1) := hp3
  rcases hp3 with f4 | f5
  · obtain ⟨rfl, f4⟩ := f4
    refine lv_if_eq (tgt := 11) hx hb dX7_jointNamed_6 (by decide) (fun _ => ?_) (fun c => absurd (by decide) c)
    refine lv_aload_n hx hb dX7_jointNamed_11 rfl (lv_at hl 0 rfl) ?_
    refine va_ldcS hx hb hown (hE.2.2.2 16 (by decide)) dX7_jointNamed_12 ?_
    refine y_fini (w' := fun (u6 : Unit) => [(h0, .inr (7, [.ref h0_text, .int h0_length, .int h0_fault, .int h0_place, .int h0_next, .int h0_kind, .int h0_start, .int h0_value])), (h0_text, .inl (cB, 600, .inl h0_text_f))]) (va_runV (As := [.ref (adK 16)]) (rest := []) ⟨hx, hb, hml, hown, hts⟩ (k_X7_isWord l dC dI cB cI cJ cZ cP cQ adK adV q0 h0 h0_text H.size 16 h0_length h0_fault h0_place h0_next h0_kind h0_start h0_value h0_text_f (show (16 ) < 20 from by omega) (show 0 ≤ h0_length.toInt from by omega) (show h0_length.toInt ≤ 600 from by omega) (show 0 ≤ h0_next.toInt from by omega) (show h0_next.toInt ≤ 600 from by omega) (show 0 ≤ h0_start.toInt from by omega) (show h0_start.toInt ≤ 600 from by omega)) (cwV 1 hts gX7_jointNamed_X7_isWord rfl rfl rfl ⟨rfl, hd_X7_isWord⟩ ⟨Nat.le_of_ble_eq_true rfl, Nat.le_of_ble_eq_true rfl⟩) (s_pV (ci := 7) hE hS hA hK hP hD zX_nil [0, 1] (by decide) rfl rfl 0 rfl) rfl rfl hl.1 rfl (lv_room (Nat.le_of_ble_eq_true rfl)) dX7_jointNamed_14 ⟨Nat.le_of_ble_eq_true rfl, Nat.le_of_ble_eq_true rfl⟩) hP hD hS hA [0, 1] [] [0, 1] rfl rfl (by decide) (by decide) (fun _ => rfl) (by decide) (fun r7 u6 H locs hp8 hP hD hS => ?_)
    have hP : va_P (dC, dI) vwCl [(h0, .inr (7, [.ref h0_text, .int h0_length, .int h0_fault, .int h0_place, .int h0_next, .int h0_kind, .int h0_start, .int h0_value])), (h0_text, .inl (cB, 600, .inl h0_text_f))] H := hP
    have hD : va_D A [(h0, .inr (7, [.ref h0_text, .int h0_length, .int h0_fault, .int h0_place, .int h0_next, .int h0_kind, .int h0_start, .int h0_value])), (h0_text, .inl (cB, 600, .inl h0_text_f))] := hD
    have hp8 : (r7 = 0 ∧ (¬ h0_kind.toInt = 1 ∨ h0_kind.toInt = 1 ∨ h0_kind.toInt = 1)) ∨ (r7 = 1 ∧ h0_kind.toInt = 1) := hp8
    rcases hp8 with f9 | f10
    · obtain ⟨rfl, f9⟩ := f9
      refine lv_if_eq (tgt := 22) hx hb dX7_jointNamed_17 (by decide) (fun _ => ?_) (fun c => absurd (by decide) c)
      refine lv_aload_n hx hb dX7_jointNamed_22 rfl (lv_at hl 0 rfl) ?_
      refine va_ldcS hx hb hown (hE.2.2.2 17 (by decide)) dX7_jointNamed_23 ?_
      refine y_fini (w' := fun (u11 : Unit) => [(h0, .inr (7, [.ref h0_text, .int h0_length, .int h0_fault, .int h0_place, .int h0_next, .int h0_kind, .int h0_start, .int h0_value])), (h0_text, .inl (cB, 600, .inl h0_text_f))]) (va_runV (As := [.ref (adK 17)]) (rest := []) ⟨hx, hb, hml, hown, hts⟩ (k_X7_isWord l dC dI cB cI cJ cZ cP cQ adK adV q0 h0 h0_text H.size 17 h0_length h0_fault h0_place h0_next h0_kind h0_start h0_value h0_text_f (show (17 ) < 20 from by omega) (show 0 ≤ h0_length.toInt from by omega) (show h0_length.toInt ≤ 600 from by omega) (show 0 ≤ h0_next.toInt from by omega) (show h0_next.toInt ≤ 600 from by omega) (show 0 ≤ h0_start.toInt from by omega) (show h0_start.toInt ≤ 600 from by omega)) (cwV 1 hts gX7_jointNamed_X7_isWord rfl rfl rfl ⟨rfl, hd_X7_isWord⟩ ⟨Nat.le_of_ble_eq_true rfl, Nat.le_of_ble_eq_true rfl⟩) (s_pV (ci := 7) hE hS hA hK hP hD zX_nil [0, 1] (by decide) rfl rfl 0 rfl) rfl rfl hl.1 rfl (lv_room (Nat.le_of_ble_eq_true rfl)) dX7_jointNamed_25 ⟨Nat.le_of_ble_eq_true rfl, Nat.le_of_ble_eq_true rfl⟩) hP hD hS hA [0, 1] [] [0, 1] rfl rfl (by decide) (by decide) (fun _ => rfl) (by decide) (fun r12 u11 H locs hp13 hP hD hS => ?_)
      have hP : va_P (dC, dI) vwCl [(h0, .inr (7, [.ref h0_text, .int h0_length, .int h0_fault, .int h0_place, .int h0_next, .int h0_kind, .int h0_start, .int h0_value])), (h0_text, .inl (cB, 600, .inl h0_text_f))] H := hP
      have hD : va_D A [(h0, .inr (7, [.ref h0_text, .int h0_length, .int h0_fault, .int h0_place, .int h0_next, .int h0_kind, .int h0_start, .int h0_value])), (h0_text, .inl (cB, 600, .inl h0_text_f))] := hD
      have hp13 : (r12 = 0 ∧ (¬ h0_kind.toInt = 1 ∨ h0_kind.toInt = 1 ∨ h0_kind.toInt = 1)) ∨ (r12 = 1 ∧ h0_kind.toInt = 1) := hp13
      rcases hp13 with f14 | f15
      · obtain ⟨rfl, f14⟩ := f14
        refine lv_if_eq (tgt := 33) hx hb dX7_jointNamed_28 (by decide) (fun _ => ?_) (fun c => absurd (by decide) c)
        refine lv_aload_n hx hb dX7_jointNamed_33 rfl (lv_at hl 0 rfl) ?_
        refine va_ldcS hx hb hown (hE.2.2.2 18 (by decide)) dX7_jointNamed_34 ?_
        refine y_fini (w' := fun (u16 : Unit) => [(h0, .inr (7, [.ref h0_text, .int h0_length, .int h0_fault, .int h0_place, .int h0_next, .int h0_kind, .int h0_start, .int h0_value])), (h0_text, .inl (cB, 600, .inl h0_text_f))]) (va_runV (As := [.ref (adK 18)]) (rest := []) ⟨hx, hb, hml, hown, hts⟩ (k_X7_isWord l dC dI cB cI cJ cZ cP cQ adK adV q0 h0 h0_text H.size 18 h0_length h0_fault h0_place h0_next h0_kind h0_start h0_value h0_text_f (show (18 ) < 20 from by omega) (show 0 ≤ h0_length.toInt from by omega) (show h0_length.toInt ≤ 600 from by omega) (show 0 ≤ h0_next.toInt from by omega) (show h0_next.toInt ≤ 600 from by omega) (show 0 ≤ h0_start.toInt from by omega) (show h0_start.toInt ≤ 600 from by omega)) (cwV 1 hts gX7_jointNamed_X7_isWord rfl rfl rfl ⟨rfl, hd_X7_isWord⟩ ⟨Nat.le_of_ble_eq_true rfl, Nat.le_of_ble_eq_true rfl⟩) (s_pV (ci := 7) hE hS hA hK hP hD zX_nil [0, 1] (by decide) rfl rfl 0 rfl) rfl rfl hl.1 rfl (lv_room (Nat.le_of_ble_eq_true rfl)) dX7_jointNamed_36 ⟨Nat.le_of_ble_eq_true rfl, Nat.le_of_ble_eq_true rfl⟩) hP hD hS hA [0, 1] [] [0, 1] rfl rfl (by decide) (by decide) (fun _ => rfl) (by decide) (fun r17 u16 H locs hp18 hP hD hS => ?_)
        have hP : va_P (dC, dI) vwCl [(h0, .inr (7, [.ref h0_text, .int h0_length, .int h0_fault, .int h0_place, .int h0_next, .int h0_kind, .int h0_start, .int h0_value])), (h0_text, .inl (cB, 600, .inl h0_text_f))] H := hP
        have hD : va_D A [(h0, .inr (7, [.ref h0_text, .int h0_length, .int h0_fault, .int h0_place, .int h0_next, .int h0_kind, .int h0_start, .int h0_value])), (h0_text, .inl (cB, 600, .inl h0_text_f))] := hD
        have hp18 : (r17 = 0 ∧ (¬ h0_kind.toInt = 1 ∨ h0_kind.toInt = 1 ∨ h0_kind.toInt = 1)) ∨ (r17 = 1 ∧ h0_kind.toInt = 1) := hp18
        rcases hp18 with f19 | f20
        · obtain ⟨rfl, f19⟩ := f19
          refine lv_if_eq (tgt := 46) hx hb dX7_jointNamed_39 (by decide) (fun _ => ?_) (fun c => absurd (by decide) c)
          refine lv_iconst (v := (-1)) hx hb dX7_jointNamed_46 (by decide) ?_
          exact y_iret () hx hb hr hlocks hK hP hD hS hAe hQ rfl (Or.inl ⟨rfl, ⟨f4, f9, f14, f19⟩⟩) dX7_jointNamed_47
        · obtain ⟨rfl, f20⟩ := f20
          refine lv_if_eq (tgt := 46) hx hb dX7_jointNamed_39 (by decide) (fun c => absurd c (by decide)) (fun _ => ?_)
          refine lv_iconst (v := 3) hx hb dX7_jointNamed_42 (by decide) ?_
          refine lv_goto (tgt := 47) hx hb dX7_jointNamed_43 (by decide) ?_
          exact y_iret () hx hb hr hlocks hK hP hD hS hAe hQ rfl (Or.inr (Or.inl ⟨rfl, ⟨f4, f9, f14, f20⟩⟩)) dX7_jointNamed_47
      · obtain ⟨rfl, f15⟩ := f15
        refine lv_if_eq (tgt := 33) hx hb dX7_jointNamed_28 (by decide) (fun c => absurd c (by decide)) (fun _ => ?_)
        refine lv_iconst (v := 2) hx hb dX7_jointNamed_31 (by decide) ?_
        exact y_iret () hx hb hr hlocks hK hP hD hS hAe hQ rfl (Or.inr (Or.inr (Or.inl ⟨rfl, ⟨f4, f9, f15⟩⟩))) dX7_jointNamed_32
    · obtain ⟨rfl, f10⟩ := f10
      refine lv_if_eq (tgt := 22) hx hb dX7_jointNamed_17 (by decide) (fun c => absurd c (by decide)) (fun _ => ?_)
      refine lv_iconst (v := 1) hx hb dX7_jointNamed_20 (by decide) ?_
      exact y_iret () hx hb hr hlocks hK hP hD hS hAe hQ rfl (Or.inr (Or.inr (Or.inr (Or.inl ⟨rfl, ⟨f4, f10⟩⟩)))) dX7_jointNamed_21
  · obtain ⟨rfl, f5⟩ := f5
    refine lv_if_eq (tgt := 11) hx hb dX7_jointNamed_6 (by decide) (fun c => absurd c (by decide)) (fun _ => ?_)
    refine lv_iconst (v := 0) hx hb dX7_jointNamed_9 (by decide) ?_
    exact y_iret () hx hb hr hlocks hK hP hD hS hAe hQ rfl (Or.inr (Or.inr (Or.inr (Or.inr ⟨rfl, f5⟩)))) dX7_jointNamed_10
set_option maxHeartbeats 8000000 in
set_option maxRecDepth 100000 in
theorem k_X7_partNamed (l : Launch) (dC : Nat → ClassId) (dI : Nat → Nat → Nat) (cB cI cJ cZ cP cQ : ClassId) (adK adV : Nat → Nat) (q0 : Option Nat) (h0 : Nat) (h0_text : Nat) (sz : Nat) (h0_length : Int32) (h0_fault : Int32) (h0_place : Int32) (h0_next : Int32) (h0_kind : Int32) (h0_start : Int32) (h0_value : Int32) (h0_text_f : Nat → Int32) (e0 : 0 ≤ h0_length.toInt) (e1 : h0_length.toInt ≤ 600) (e2 : 0 ≤ h0_next.toInt) (e3 : h0_next.toInt ≤ 600) (e4 : 0 ≤ h0_start.toInt) (e5 : h0_start.toInt ≤ 600) : Met l yX7_partNamed wsX7_partNamed ({ frames := 5, cells := 0, slots := 0, locals := 163 } : Room) (sPc [.ref h0] (dC, dI) (zT cB cI cJ cZ cP cQ) [(h0, .inr (7, [.ref h0_text, .int h0_length, .int h0_fault, .int h0_place, .int h0_next, .int h0_kind, .int h0_start, .int h0_value])), (h0_text, .inl (cB, 600, .inl h0_text_f))] sz [] [] adK adV q0) (va_Qi (fun (r : Int32) (u : Unit) => (r = (-1) ∧ ((¬ h0_kind.toInt = 1 ∨ h0_kind.toInt = 1 ∨ h0_kind.toInt = 1) ∧ (¬ h0_kind.toInt = 1 ∨ h0_kind.toInt = 1 ∨ h0_kind.toInt = 1) ∧ (¬ h0_kind.toInt = 1 ∨ h0_kind.toInt = 1 ∨ h0_kind.toInt = 1) ∧ (¬ h0_kind.toInt = 1 ∨ h0_kind.toInt = 1 ∨ h0_kind.toInt = 1) ∧ (¬ h0_kind.toInt = 1 ∨ h0_kind.toInt = 1 ∨ h0_kind.toInt = 1))) ∨ (r = 1004 ∧ ((¬ h0_kind.toInt = 1 ∨ h0_kind.toInt = 1 ∨ h0_kind.toInt = 1) ∧ (¬ h0_kind.toInt = 1 ∨ h0_kind.toInt = 1 ∨ h0_kind.toInt = 1) ∧ (¬ h0_kind.toInt = 1 ∨ h0_kind.toInt = 1 ∨ h0_kind.toInt = 1) ∧ (¬ h0_kind.toInt = 1 ∨ h0_kind.toInt = 1 ∨ h0_kind.toInt = 1) ∧ h0_kind.toInt = 1)) ∨ (r = 1003 ∧ ((¬ h0_kind.toInt = 1 ∨ h0_kind.toInt = 1 ∨ h0_kind.toInt = 1) ∧ (¬ h0_kind.toInt = 1 ∨ h0_kind.toInt = 1 ∨ h0_kind.toInt = 1) ∧ (¬ h0_kind.toInt = 1 ∨ h0_kind.toInt = 1 ∨ h0_kind.toInt = 1) ∧ h0_kind.toInt = 1)) ∨ (r = 1002 ∧ ((¬ h0_kind.toInt = 1 ∨ h0_kind.toInt = 1 ∨ h0_kind.toInt = 1) ∧ (¬ h0_kind.toInt = 1 ∨ h0_kind.toInt = 1 ∨ h0_kind.toInt = 1) ∧ h0_kind.toInt = 1)) ∨ (r = 1001 ∧ ((¬ h0_kind.toInt = 1 ∨ h0_kind.toInt = 1 ∨ h0_kind.toInt = 1) ∧ h0_kind.toInt = 1)) ∨ (r = 1000 ∧ h0_kind.toInt = 1)) (zB (dC, dI) (zT cB cI cJ cZ cP cQ) (fun u : Unit => [(h0, .inr (7, [.ref h0_text, .int h0_length, .int h0_fault, .int h0_place, .int h0_next, .int h0_kind, .int h0_start, .int h0_value])), (h0_text, .inl (cB, 600, .inl h0_text_f))]) [(h0, .inr (7, [.ref h0_text, .int h0_length, .int h0_fault, .int h0_place, .int h0_next, .int h0_kind, .int h0_start, .int h0_value])), (h0_text, .inl (cB, 600, .inl h0_text_f))] sz) (va_A [(h0, .inr (7, [.ref h0_text, .int h0_length, .int h0_fault, .int h0_place, .int h0_next, .int h0_kind, .int h0_start, .int h0_value])), (h0_text, .inl (cB, 600, .inl h0_text_f))] sz)) 0 0 (va_A [(h0, .inr (7, [.ref h0_text, .int h0_length, .int h0_fault, .int h0_place, .int h0_next, .int h0_kind, .int h0_start, .int h0_value])), (h0_text, .inl (cB, 600, .inl h0_text_f))] sz) := by
  refine s_enter (cc := cX7_partNamed) (maxL := 1) (ret := (some .int)) (by decide) rfl (Nat.le_of_ble_eq_true rfl) ?_
  intro p e s m below meth c A ls Q H locs hx hb hr hml hown hts hlocks hin hK hP hD hA hX hS hAe hQ hl hE
  have hown : s.vm.findClass RX7 = some m.cls := hown
  have hl : lv_has ls 1 [(0, .ref h0)] := hl
  refine lv_aload_n hx hb dX7_partNamed_0 rfl (lv_at hl 0 rfl) ?_
  refine va_ldcS hx hb hown (hE.2.2.2 11 (by decide)) dX7_partNamed_1 ?_
  refine y_fini (w' := fun (u1 : Unit) => [(h0, .inr (7, [.ref h0_text, .int h0_length, .int h0_fault, .int h0_place, .int h0_next, .int h0_kind, .int h0_start, .int h0_value])), (h0_text, .inl (cB, 600, .inl h0_text_f))]) (va_runV (As := [.ref (adK 11)]) (rest := []) ⟨hx, hb, hml, hown, hts⟩ (k_X7_isWord l dC dI cB cI cJ cZ cP cQ adK adV q0 h0 h0_text H.size 11 h0_length h0_fault h0_place h0_next h0_kind h0_start h0_value h0_text_f (show (11 ) < 20 from by omega) (show 0 ≤ h0_length.toInt from by omega) (show h0_length.toInt ≤ 600 from by omega) (show 0 ≤ h0_next.toInt from by omega) (show h0_next.toInt ≤ 600 from by omega) (show 0 ≤ h0_start.toInt from by omega) (show h0_start.toInt ≤ 600 from by omega)) (cwV 1 hts gX7_partNamed_X7_isWord rfl rfl rfl ⟨rfl, hd_X7_isWord⟩ ⟨Nat.le_of_ble_eq_true rfl, Nat.le_of_ble_eq_true rfl⟩) (s_pV (ci := 7) hE hS hA hK hP hD zX_nil [0, 1] (by decide) rfl rfl 0 rfl) rfl rfl hl.1 rfl (lv_room (Nat.le_of_ble_eq_true rfl)) dX7_partNamed_3 ⟨Nat.le_of_ble_eq_true rfl, Nat.le_of_ble_eq_true rfl⟩) hP hD hS hA [0, 1] [] [0, 1] rfl rfl (by decide) (by decide) (fun _ => rfl) (by decide) (fun r2 u1 H locs hp3 hP hD hS => ?_)
  have hP : va_P (dC, dI) vwCl [(h0, .inr (7, [.ref h0_text, .int h0_length, .int h0_fault, .int h0_place, .int h0_next, .int h0_kind, .int h0_start, .int h0_value])), (h0_text, .inl (cB, 600, .inl h0_text_f))] H := hP
  have hD : va_D A [(h0, .inr (7, [.ref h0_text, .int h0_length, .int h0_fault, .int h0_place, .int h0_next, .int h0_kind, .int h0_start, .int h0_value])), (h0_text, .inl (cB, 600, .inl h0_text_f))] := hD
  have hp3 : (r2 = 0 ∧ (¬ h0_kind.toInt = 1 ∨ h0_kind.toInt = 1 ∨ h0_kind.toInt = 1)) ∨ (r2 = 1 ∧ h0_kind.toInt = 1) := hp3
  rcases hp3 with f4 | f5
  · obtain ⟨rfl, f4⟩ := f4
    refine lv_if_eq (tgt := 13) hx hb dX7_partNamed_6 (by decide) (fun _ => ?_) (fun c => absurd (by decide) c)
    refine lv_aload_n hx hb dX7_partNamed_13 rfl (lv_at hl 0 rfl) ?_
    refine va_ldcS hx hb hown (hE.2.2.2 5 (by decide)) dX7_partNamed_14 ?_
    refine y_fini (w' := fun (u6 : Unit) => [(h0, .inr (7, [.ref h0_text, .int h0_length, .int h0_fault, .int h0_place, .int h0_next, .int h0_kind, .int h0_start, .int h0_value])), (h0_text, .inl (cB, 600, .inl h0_text_f))]) (va_runV (As := [.ref (adK 5)]) (rest := []) ⟨hx, hb, hml, hown, hts⟩ (k_X7_isWord l dC dI cB cI cJ cZ cP cQ adK adV q0 h0 h0_text H.size 5 h0_length h0_fault h0_place h0_next h0_kind h0_start h0_value h0_text_f (show (5 ) < 20 from by omega) (show 0 ≤ h0_length.toInt from by omega) (show h0_length.toInt ≤ 600 from by omega) (show 0 ≤ h0_next.toInt from by omega) (show h0_next.toInt ≤ 600 from by omega) (show 0 ≤ h0_start.toInt from by omega) (show h0_start.toInt ≤ 600 from by omega)) (cwV 1 hts gX7_partNamed_X7_isWord rfl rfl rfl ⟨rfl, hd_X7_isWord⟩ ⟨Nat.le_of_ble_eq_true rfl, Nat.le_of_ble_eq_true rfl⟩) (s_pV (ci := 7) hE hS hA hK hP hD zX_nil [0, 1] (by decide) rfl rfl 0 rfl) rfl rfl hl.1 rfl (lv_room (Nat.le_of_ble_eq_true rfl)) dX7_partNamed_16 ⟨Nat.le_of_ble_eq_true rfl, Nat.le_of_ble_eq_true rfl⟩) hP hD hS hA [0, 1] [] [0, 1] rfl rfl (by decide) (by decide) (fun _ => rfl) (by decide) (fun r7 u6 H locs hp8 hP hD hS => ?_)
    have hP : va_P (dC, dI) vwCl [(h0, .inr (7, [.ref h0_text, .int h0_length, .int h0_fault, .int h0_place, .int h0_next, .int h0_kind, .int h0_start, .int h0_value])), (h0_text, .inl (cB, 600, .inl h0_text_f))] H := hP
    have hD : va_D A [(h0, .inr (7, [.ref h0_text, .int h0_length, .int h0_fault, .int h0_place, .int h0_next, .int h0_kind, .int h0_start, .int h0_value])), (h0_text, .inl (cB, 600, .inl h0_text_f))] := hD
    have hp8 : (r7 = 0 ∧ (¬ h0_kind.toInt = 1 ∨ h0_kind.toInt = 1 ∨ h0_kind.toInt = 1)) ∨ (r7 = 1 ∧ h0_kind.toInt = 1) := hp8
    rcases hp8 with f9 | f10
    · obtain ⟨rfl, f9⟩ := f9
      refine lv_if_eq (tgt := 26) hx hb dX7_partNamed_19 (by decide) (fun _ => ?_) (fun c => absurd (by decide) c)
      refine lv_aload_n hx hb dX7_partNamed_26 rfl (lv_at hl 0 rfl) ?_
      refine va_ldcS hx hb hown (hE.2.2.2 12 (by decide)) dX7_partNamed_27 ?_
      refine y_fini (w' := fun (u11 : Unit) => [(h0, .inr (7, [.ref h0_text, .int h0_length, .int h0_fault, .int h0_place, .int h0_next, .int h0_kind, .int h0_start, .int h0_value])), (h0_text, .inl (cB, 600, .inl h0_text_f))]) (va_runV (As := [.ref (adK 12)]) (rest := []) ⟨hx, hb, hml, hown, hts⟩ (k_X7_isWord l dC dI cB cI cJ cZ cP cQ adK adV q0 h0 h0_text H.size 12 h0_length h0_fault h0_place h0_next h0_kind h0_start h0_value h0_text_f (show (12 ) < 20 from by omega) (show 0 ≤ h0_length.toInt from by omega) (show h0_length.toInt ≤ 600 from by omega) (show 0 ≤ h0_next.toInt from by omega) (show h0_next.toInt ≤ 600 from by omega) (show 0 ≤ h0_start.toInt from by omega) (show h0_start.toInt ≤ 600 from by omega)) (cwV 1 hts gX7_partNamed_X7_isWord rfl rfl rfl ⟨rfl, hd_X7_isWord⟩ ⟨Nat.le_of_ble_eq_true rfl, Nat.le_of_ble_eq_true rfl⟩) (s_pV (ci := 7) hE hS hA hK hP hD zX_nil [0, 1] (by decide) rfl rfl 0 rfl) rfl rfl hl.1 rfl (lv_room (Nat.le_of_ble_eq_true rfl)) dX7_partNamed_29 ⟨Nat.le_of_ble_eq_true rfl, Nat.le_of_ble_eq_true rfl⟩) hP hD hS hA [0, 1] [] [0, 1] rfl rfl (by decide) (by decide) (fun _ => rfl) (by decide) (fun r12 u11 H locs hp13 hP hD hS => ?_)
      have hP : va_P (dC, dI) vwCl [(h0, .inr (7, [.ref h0_text, .int h0_length, .int h0_fault, .int h0_place, .int h0_next, .int h0_kind, .int h0_start, .int h0_value])), (h0_text, .inl (cB, 600, .inl h0_text_f))] H := hP
      have hD : va_D A [(h0, .inr (7, [.ref h0_text, .int h0_length, .int h0_fault, .int h0_place, .int h0_next, .int h0_kind, .int h0_start, .int h0_value])), (h0_text, .inl (cB, 600, .inl h0_text_f))] := hD
      have hp13 : (r12 = 0 ∧ (¬ h0_kind.toInt = 1 ∨ h0_kind.toInt = 1 ∨ h0_kind.toInt = 1)) ∨ (r12 = 1 ∧ h0_kind.toInt = 1) := hp13
      rcases hp13 with f14 | f15
      · obtain ⟨rfl, f14⟩ := f14
        refine lv_if_eq (tgt := 39) hx hb dX7_partNamed_32 (by decide) (fun _ => ?_) (fun c => absurd (by decide) c)
        refine lv_aload_n hx hb dX7_partNamed_39 rfl (lv_at hl 0 rfl) ?_
        refine va_ldcS hx hb hown (hE.2.2.2 13 (by decide)) dX7_partNamed_40 ?_
        refine y_fini (w' := fun (u16 : Unit) => [(h0, .inr (7, [.ref h0_text, .int h0_length, .int h0_fault, .int h0_place, .int h0_next, .int h0_kind, .int h0_start, .int h0_value])), (h0_text, .inl (cB, 600, .inl h0_text_f))]) (va_runV (As := [.ref (adK 13)]) (rest := []) ⟨hx, hb, hml, hown, hts⟩ (k_X7_isWord l dC dI cB cI cJ cZ cP cQ adK adV q0 h0 h0_text H.size 13 h0_length h0_fault h0_place h0_next h0_kind h0_start h0_value h0_text_f (show (13 ) < 20 from by omega) (show 0 ≤ h0_length.toInt from by omega) (show h0_length.toInt ≤ 600 from by omega) (show 0 ≤ h0_next.toInt from by omega) (show h0_next.toInt ≤ 600 from by omega) (show 0 ≤ h0_start.toInt from by omega) (show h0_start.toInt ≤ 600 from by omega)) (cwV 1 hts gX7_partNamed_X7_isWord rfl rfl rfl ⟨rfl, hd_X7_isWord⟩ ⟨Nat.le_of_ble_eq_true rfl, Nat.le_of_ble_eq_true rfl⟩) (s_pV (ci := 7) hE hS hA hK hP hD zX_nil [0, 1] (by decide) rfl rfl 0 rfl) rfl rfl hl.1 rfl (lv_room (Nat.le_of_ble_eq_true rfl)) dX7_partNamed_42 ⟨Nat.le_of_ble_eq_true rfl, Nat.le_of_ble_eq_true rfl⟩) hP hD hS hA [0, 1] [] [0, 1] rfl rfl (by decide) (by decide) (fun _ => rfl) (by decide) (fun r17 u16 H locs hp18 hP hD hS => ?_)
        have hP : va_P (dC, dI) vwCl [(h0, .inr (7, [.ref h0_text, .int h0_length, .int h0_fault, .int h0_place, .int h0_next, .int h0_kind, .int h0_start, .int h0_value])), (h0_text, .inl (cB, 600, .inl h0_text_f))] H := hP
        have hD : va_D A [(h0, .inr (7, [.ref h0_text, .int h0_length, .int h0_fault, .int h0_place, .int h0_next, .int h0_kind, .int h0_start, .int h0_value])), (h0_text, .inl (cB, 600, .inl h0_text_f))] := hD
        have hp18 : (r17 = 0 ∧ (¬ h0_kind.toInt = 1 ∨ h0_kind.toInt = 1 ∨ h0_kind.toInt = 1)) ∨ (r17 = 1 ∧ h0_kind.toInt = 1) := hp18
        rcases hp18 with f19 | f20
        · obtain ⟨rfl, f19⟩ := f19
          refine lv_if_eq (tgt := 52) hx hb dX7_partNamed_45 (by decide) (fun _ => ?_) (fun c => absurd (by decide) c)
          refine lv_aload_n hx hb dX7_partNamed_52 rfl (lv_at hl 0 rfl) ?_
          refine va_ldcS hx hb hown (hE.2.2.2 14 (by decide)) dX7_partNamed_53 ?_
          refine y_fini (w' := fun (u21 : Unit) => [(h0, .inr (7, [.ref h0_text, .int h0_length, .int h0_fault, .int h0_place, .int h0_next, .int h0_kind, .int h0_start, .int h0_value])), (h0_text, .inl (cB, 600, .inl h0_text_f))]) (va_runV (As := [.ref (adK 14)]) (rest := []) ⟨hx, hb, hml, hown, hts⟩ (k_X7_isWord l dC dI cB cI cJ cZ cP cQ adK adV q0 h0 h0_text H.size 14 h0_length h0_fault h0_place h0_next h0_kind h0_start h0_value h0_text_f (show (14 ) < 20 from by omega) (show 0 ≤ h0_length.toInt from by omega) (show h0_length.toInt ≤ 600 from by omega) (show 0 ≤ h0_next.toInt from by omega) (show h0_next.toInt ≤ 600 from by omega) (show 0 ≤ h0_start.toInt from by omega) (show h0_start.toInt ≤ 600 from by omega)) (cwV 1 hts gX7_partNamed_X7_isWord rfl rfl rfl ⟨rfl, hd_X7_isWord⟩ ⟨Nat.le_of_ble_eq_true rfl, Nat.le_of_ble_eq_true rfl⟩) (s_pV (ci := 7) hE hS hA hK hP hD zX_nil [0, 1] (by decide) rfl rfl 0 rfl) rfl rfl hl.1 rfl (lv_room (Nat.le_of_ble_eq_true rfl)) dX7_partNamed_55 ⟨Nat.le_of_ble_eq_true rfl, Nat.le_of_ble_eq_true rfl⟩) hP hD hS hA [0, 1] [] [0, 1] rfl rfl (by decide) (by decide) (fun _ => rfl) (by decide) (fun r22 u21 H locs hp23 hP hD hS => ?_)
          have hP : va_P (dC, dI) vwCl [(h0, .inr (7, [.ref h0_text, .int h0_length, .int h0_fault, .int h0_place, .int h0_next, .int h0_kind, .int h0_start, .int h0_value])), (h0_text, .inl (cB, 600, .inl h0_text_f))] H := hP
          have hD : va_D A [(h0, .inr (7, [.ref h0_text, .int h0_length, .int h0_fault, .int h0_place, .int h0_next, .int h0_kind, .int h0_start, .int h0_value])), (h0_text, .inl (cB, 600, .inl h0_text_f))] := hD
          have hp23 : (r22 = 0 ∧ (¬ h0_kind.toInt = 1 ∨ h0_kind.toInt = 1 ∨ h0_kind.toInt = 1)) ∨ (r22 = 1 ∧ h0_kind.toInt = 1) := hp23
          rcases hp23 with f24 | f25
          · obtain ⟨rfl, f24⟩ := f24
            refine lv_if_eq (tgt := 67) hx hb dX7_partNamed_58 (by decide) (fun _ => ?_) (fun c => absurd (by decide) c)
            refine lv_iconst (v := (-1)) hx hb dX7_partNamed_67 (by decide) ?_
            exact y_iret () hx hb hr hlocks hK hP hD hS hAe hQ rfl (Or.inl ⟨rfl, ⟨f4, f9, f14, f19, f24⟩⟩) dX7_partNamed_68
          · obtain ⟨rfl, f25⟩ := f25
            refine lv_if_eq (tgt := 67) hx hb dX7_partNamed_58 (by decide) (fun c => absurd c (by decide)) (fun _ => ?_)
            refine lv_sipush (v := 1004) hx hb dX7_partNamed_61 (by decide) ?_
            refine lv_goto (tgt := 68) hx hb dX7_partNamed_64 (by decide) ?_
            exact y_iret () hx hb hr hlocks hK hP hD hS hAe hQ rfl (Or.inr (Or.inl ⟨rfl, ⟨f4, f9, f14, f19, f25⟩⟩)) dX7_partNamed_68
        · obtain ⟨rfl, f20⟩ := f20
          refine lv_if_eq (tgt := 52) hx hb dX7_partNamed_45 (by decide) (fun c => absurd c (by decide)) (fun _ => ?_)
          refine lv_sipush (v := 1003) hx hb dX7_partNamed_48 (by decide) ?_
          exact y_iret () hx hb hr hlocks hK hP hD hS hAe hQ rfl (Or.inr (Or.inr (Or.inl ⟨rfl, ⟨f4, f9, f14, f20⟩⟩))) dX7_partNamed_51
      · obtain ⟨rfl, f15⟩ := f15
        refine lv_if_eq (tgt := 39) hx hb dX7_partNamed_32 (by decide) (fun c => absurd c (by decide)) (fun _ => ?_)
        refine lv_sipush (v := 1002) hx hb dX7_partNamed_35 (by decide) ?_
        exact y_iret () hx hb hr hlocks hK hP hD hS hAe hQ rfl (Or.inr (Or.inr (Or.inr (Or.inl ⟨rfl, ⟨f4, f9, f15⟩⟩)))) dX7_partNamed_38
    · obtain ⟨rfl, f10⟩ := f10
      refine lv_if_eq (tgt := 26) hx hb dX7_partNamed_19 (by decide) (fun c => absurd c (by decide)) (fun _ => ?_)
      refine lv_sipush (v := 1001) hx hb dX7_partNamed_22 (by decide) ?_
      exact y_iret () hx hb hr hlocks hK hP hD hS hAe hQ rfl (Or.inr (Or.inr (Or.inr (Or.inr (Or.inl ⟨rfl, ⟨f4, f10⟩⟩))))) dX7_partNamed_25
  · obtain ⟨rfl, f5⟩ := f5
    refine lv_if_eq (tgt := 13) hx hb dX7_partNamed_6 (by decide) (fun c => absurd c (by decide)) (fun _ => ?_)
    refine lv_sipush (v := 1000) hx hb dX7_partNamed_9 (by decide) ?_
    exact y_iret () hx hb hr hlocks hK hP hD hS hAe hQ rfl (Or.inr (Or.inr (Or.inr (Or.inr (Or.inr ⟨rfl, f5⟩))))) dX7_partNamed_12
set_option maxHeartbeats 8000000 in
set_option maxRecDepth 100000 in
theorem k_X7_step (l : Launch) (dC : Nat → ClassId) (dI : Nat → Nat → Nat) (cB cI cJ cZ cP cQ : ClassId) (h0 : Nat) (h0_text : Nat) (sz : Nat) (h0_length : Int32) (h0_fault : Int32) (h0_place : Int32) (h0_next : Int32) (h0_kind : Int32) (h0_start : Int32) (h0_value : Int32) (h0_text_f : Nat → Int32) (e0 : 0 ≤ h0_length.toInt) (e1 : h0_length.toInt ≤ 600) (e2 : 0 ≤ h0_next.toInt) (e3 : h0_next.toInt ≤ 600) (e4 : 0 ≤ h0_start.toInt) (e5 : h0_start.toInt ≤ 600) : Met l yX7_step wsX7_step ({ frames := 1, cells := 0, slots := 0, locals := 40 } : Room) (zPc [.ref h0] (dC, dI) (zT cB cI cJ cZ cP cQ) [(h0, .inr (7, [.ref h0_text, .int h0_length, .int h0_fault, .int h0_place, .int h0_next, .int h0_kind, .int h0_start, .int h0_value])), (h0_text, .inl (cB, 600, .inl h0_text_f))] sz [] []) (va_Qv (fun (u : Int32 × Int32 × Int32 × Int32) => 0 ≤ h0_length.toInt ∧ h0_length.toInt ≤ 600 ∧ 0 ≤ u.1.toInt ∧ u.1.toInt ≤ 600 ∧ 0 ≤ u.2.2.1.toInt ∧ u.2.2.1.toInt ≤ 600) (zB (dC, dI) (zT cB cI cJ cZ cP cQ) (fun u : Int32 × Int32 × Int32 × Int32 => [(h0, .inr (7, [.ref h0_text, .int h0_length, .int h0_fault, .int h0_place, .int u.1, .int u.2.1, .int u.2.2.1, .int u.2.2.2])), (h0_text, .inl (cB, 600, .inl h0_text_f))]) [(h0, .inr (7, [.ref h0_text, .int h0_length, .int h0_fault, .int h0_place, .int h0_next, .int h0_kind, .int h0_start, .int h0_value])), (h0_text, .inl (cB, 600, .inl h0_text_f))] sz) (va_A [(h0, .inr (7, [.ref h0_text, .int h0_length, .int h0_fault, .int h0_place, .int h0_next, .int h0_kind, .int h0_start, .int h0_value])), (h0_text, .inl (cB, 600, .inl h0_text_f))] sz)) 0 0 (va_A [(h0, .inr (7, [.ref h0_text, .int h0_length, .int h0_fault, .int h0_place, .int h0_next, .int h0_kind, .int h0_start, .int h0_value])), (h0_text, .inl (cB, 600, .inl h0_text_f))] sz) := by
  refine z_enter (cc := cX7_step) (maxL := 1) (ret := none) (by decide) rfl (Nat.le_of_ble_eq_true rfl) ?_
  intro p e s m below meth c A ls Q H locs hx hb hr hml hown hts hlocks hin hK hP hD hA hX hS hAe hQ hl
  have hown : s.vm.findClass RX7 = some m.cls := hown
  have hi7 : ∀ w ∈ wsX70, w ∈ wsX7_step := fun w h => List.mem_cons_of_mem _ (List.mem_append_right _ h)
  have hk0 := hts (.fieldLink RX7 25 "MonthPush$Tape" "next" "I") (List.mem_of_getElem? (i := 1) rfl)
  have hk1 := hts (.fieldLink RX7 19 "MonthPush$Tape" "length" "I") (List.mem_of_getElem? (i := 2) rfl)
  have hk2 := hts (.fieldLink RX7 170 "MonthPush$Tape" "start" "I") (List.mem_of_getElem? (i := 4) rfl)
  have hk3 := hts (.fieldLink RX7 116 "MonthPush$Tape" "value" "I") (List.mem_of_getElem? (i := 5) rfl)
  have hk4 := hts (.fieldLink RX7 9 "MonthPush$Tape" "text" "[B") (List.mem_of_getElem? (i := 3) rfl)
  have hk5 := hts (.fieldLink RX7 36 "MonthPush$Tape" "kind" "I") (List.mem_of_getElem? (i := 6) rfl)
  have hk6 := hts (.constant RX7 188 100000) (List.mem_of_getElem? (i := 7) rfl)
  have hk7 := hts (.methodLink RX7 189 Lib.Math.min.name) (List.mem_of_getElem? (i := 8) rfl)
  have hk8 := hts (.static Lib.Math.min.name) (List.mem_of_getElem? (i := 9) rfl)
  have hk9 := hts (.initialized "java/lang/Math") (List.mem_of_getElem? (i := 10) rfl)
  have hk10 := hts (.code Lib.Math.min.name Lib.Math.min.code 2 (some .int)) (List.mem_of_getElem? (i := 11) rfl)
  have hl : lv_has ls 1 [(0, .ref h0)] := hl
  have hlp2 : ∀ (n3 : Nat) (x1 : Int32), 601 - x1.toInt < (n3 : Int) → 0 ≤ h0_length.toInt → h0_length.toInt ≤ 600 → 0 ≤ x1.toInt → x1.toInt ≤ 600 → 0 ≤ h0_start.toInt → h0_start.toInt ≤ 600 → ∀ (H : Heap) (locs : List Loc), va_P (dC, dI) vwCl [(h0, .inr (7, [.ref h0_text, .int h0_length, .int h0_fault, .int h0_place, .int x1, .int h0_kind, .int h0_start, .int h0_value])), (h0_text, .inl (cB, 600, .inl h0_text_f))] H → va_D A [(h0, .inr (7, [.ref h0_text, .int h0_length, .int h0_fault, .int h0_place, .int x1, .int h0_kind, .int h0_start, .int h0_value])), (h0_text, .inl (cB, 600, .inl h0_text_f))] → va_S A s.heap H locs → ∀ (ls : Array Slot), lv_has ls 1 [(0, .ref h0)] → W p l e ({ frames := 1, cells := 0, slots := 0, locals := 40 } : Room) s m ([.ref h0] : List Value).toArray below meth c H locs 0 0 Q (F0 m 0 ls []) := by
    intro n3
    induction n3 with
    | zero =>
      intro x1 hm10 k4 k5 k6 k7 k8 k9
      exact absurd hm10 (by omega)
    | succ n3 ih11 =>
      intro x1 hm10 k4 k5 k6 k7 k8 k9 H locs hP hD hS ls hl
      refine lv_aload_n hx hb dX7_step_0 rfl (lv_at hl 0 rfl) ?_
      refine va_get (D := (dC, dI)) (ci := 7) (v := .int x1) (C := RX7) (T := TX7) (N := 8) hx hb hts hi7 hown hK hP 0 rfl rfl 4 (by decide) hk0 (fun _ h9 => h9) rfl dX7_step_1 ?_
      refine lv_aload_n hx hb dX7_step_4 rfl (lv_at hl 0 rfl) ?_
      refine va_get (D := (dC, dI)) (ci := 7) (v := .int h0_length) (C := RX7) (T := TX7) (N := 8) hx hb hts hi7 hown hK hP 0 rfl rfl 1 (by decide) hk1 (fun _ h9 => h9) rfl dX7_step_5 ?_
      refine lv_icmp_ge (tgt := 52) hx hb dX7_step_8 (by decide) (fun c_12 => ?_) (fun c_12 => ?_)
      · have f13 : h0_length.toInt ≤ x1.toInt := z_le rfl rfl c_12
        refine lv_aload_n hx hb dX7_step_52 rfl (lv_at hl 0 rfl) ?_
        refine lv_aload_n hx hb dX7_step_53 rfl (lv_at hl 0 rfl) ?_
        refine va_get (D := (dC, dI)) (ci := 7) (v := .int x1) (C := RX7) (T := TX7) (N := 8) hx hb hts hi7 hown hK hP 0 rfl rfl 4 (by decide) hk0 (fun _ h9 => h9) rfl dX7_step_54 ?_
        refine va_put (D := (dC, dI)) (ci := 7) (v := .int x1) (ty := .int) (C := RX7) (T := TX7) (N := 8) hx hb hts hi7 tyX7 tyX7_ok nmX7 hown hK hP hD hS 0 rfl rfl 6 (by decide) hk2 (fun _ h9 => h9) rfl (by decide +kernel) rfl rfl (Nat.le_of_ble_eq_true rfl) dX7_step_57 (fun H locs hP hD hS => ?_)
        have hP : va_P (dC, dI) vwCl [(h0, .inr (7, [.ref h0_text, .int h0_length, .int h0_fault, .int h0_place, .int x1, .int h0_kind, .int x1, .int h0_value])), (h0_text, .inl (cB, 600, .inl h0_text_f))] H := hP
        have hD : va_D A [(h0, .inr (7, [.ref h0_text, .int h0_length, .int h0_fault, .int h0_place, .int x1, .int h0_kind, .int x1, .int h0_value])), (h0_text, .inl (cB, 600, .inl h0_text_f))] := hD
        refine lv_aload_n hx hb dX7_step_60 rfl (lv_at hl 0 rfl) ?_
        refine lv_iconst (v := 0) hx hb dX7_step_61 (by decide) ?_
        refine va_put (D := (dC, dI)) (ci := 7) (v := .int 0) (ty := .int) (C := RX7) (T := TX7) (N := 8) hx hb hts hi7 tyX7 tyX7_ok nmX7 hown hK hP hD hS 0 rfl rfl 7 (by decide) hk3 (fun _ h9 => h9) rfl (by decide +kernel) rfl rfl (Nat.le_of_ble_eq_true rfl) dX7_step_62 (fun H locs hP hD hS => ?_)
        have hP : va_P (dC, dI) vwCl [(h0, .inr (7, [.ref h0_text, .int h0_length, .int h0_fault, .int h0_place, .int x1, .int h0_kind, .int x1, .int 0])), (h0_text, .inl (cB, 600, .inl h0_text_f))] H := hP
        have hD : va_D A [(h0, .inr (7, [.ref h0_text, .int h0_length, .int h0_fault, .int h0_place, .int x1, .int h0_kind, .int x1, .int 0])), (h0_text, .inl (cB, 600, .inl h0_text_f))] := hD
        refine lv_aload_n hx hb dX7_step_65 rfl (lv_at hl 0 rfl) ?_
        refine va_get (D := (dC, dI)) (ci := 7) (v := .int x1) (C := RX7) (T := TX7) (N := 8) hx hb hts hi7 hown hK hP 0 rfl rfl 4 (by decide) hk0 (fun _ h9 => h9) rfl dX7_step_66 ?_
        refine lv_aload_n hx hb dX7_step_69 rfl (lv_at hl 0 rfl) ?_
        refine va_get (D := (dC, dI)) (ci := 7) (v := .int h0_length) (C := RX7) (T := TX7) (N := 8) hx hb hts hi7 hown hK hP 0 rfl rfl 1 (by decide) hk1 (fun _ h9 => h9) rfl dX7_step_70 ?_
        refine lv_icmp_lt (tgt := 84) hx hb dX7_step_73 (by decide) (fun c_14 => ?_) (fun c_14 => ?_)
        · have f15 : x1.toInt < h0_length.toInt := z_lt rfl rfl c_14
          refine lv_aload_n hx hb dX7_step_84 rfl (lv_at hl 0 rfl) ?_
          refine va_get (D := (dC, dI)) (ci := 7) (v := .ref h0_text) (C := RX7) (T := TX7) (N := 8) hx hb hts hi7 hown hK hP 0 rfl rfl 0 (by decide) hk4 (fun _ h9 => h9) rfl dX7_step_85 ?_
          refine lv_aload_n hx hb dX7_step_88 rfl (lv_at hl 0 rfl) ?_
          refine va_get (D := (dC, dI)) (ci := 7) (v := .int x1) (C := RX7) (T := TX7) (N := 8) hx hb hts hi7 hown hK hP 0 rfl rfl 4 (by decide) hk0 (fun _ h9 => h9) rfl dX7_step_89 ?_
          refine va_bald hx hb hK hP 1 0 rfl rfl (z_in rfl (by omega) (by omega)) dX7_step_92 ?_
          refine y_fini (w' := fun (u16 : Unit) => [(h0, .inr (7, [.ref h0_text, .int h0_length, .int h0_fault, .int h0_place, .int x1, .int h0_kind, .int x1, .int 0])), (h0_text, .inl (cB, 600, .inl h0_text_f))]) (va_runS (As := [.int (h0_text_f x1.toNatClampNeg)]) (rest := []) ⟨hx, hb, hml, hown, hts⟩ (k_X7_isLetter l dC dI cB cI cJ cZ cP cQ H.size (h0_text_f x1.toNatClampNeg)) (va_cwS 1 hts gX7_step_X7_isLetter rfl rfl rfl hd_X7_isLetter ⟨Nat.le_of_ble_eq_true rfl, Nat.le_of_ble_eq_true rfl⟩) (z_pS hK hP hD zX_nil [] (by decide) rfl) rfl rfl hl.1 rfl (lv_room (Nat.le_of_ble_eq_true rfl)) dX7_step_93 ⟨Nat.le_of_ble_eq_true rfl, Nat.le_of_ble_eq_true rfl⟩) hP hD hS hA [] [0, 1] [0, 1] rfl rfl (by decide) (by decide) (fun _ => rfl) (by decide) (fun r17 u16 H locs hp18 hP hD hS => ?_)
          have hP : va_P (dC, dI) vwCl [(h0, .inr (7, [.ref h0_text, .int h0_length, .int h0_fault, .int h0_place, .int x1, .int h0_kind, .int x1, .int 0])), (h0_text, .inl (cB, 600, .inl h0_text_f))] H := hP
          have hD : va_D A [(h0, .inr (7, [.ref h0_text, .int h0_length, .int h0_fault, .int h0_place, .int x1, .int h0_kind, .int x1, .int 0])), (h0_text, .inl (cB, 600, .inl h0_text_f))] := hD
          have hp18 : (r17 = 0 ∧ (((h0_text_f x1.toNatClampNeg).toInt) < 97 ∨ (97 ≤ ((h0_text_f x1.toNatClampNeg).toInt) ∧ 122 < ((h0_text_f x1.toNatClampNeg).toInt)))) ∨ (r17 = 1 ∧ 97 ≤ ((h0_text_f x1.toNatClampNeg).toInt) ∧ ((h0_text_f x1.toNatClampNeg).toInt) ≤ 122) := hp18
          rcases hp18 with f19 | f20
          · obtain ⟨rfl, f19⟩ := f19
            refine lv_if_eq (tgt := 143) hx hb dX7_step_96 (by decide) (fun _ => ?_) (fun c => absurd (by decide) c)
            refine lv_aload_n hx hb dX7_step_143 rfl (lv_at hl 0 rfl) ?_
            refine va_get (D := (dC, dI)) (ci := 7) (v := .ref h0_text) (C := RX7) (T := TX7) (N := 8) hx hb hts hi7 hown hK hP 0 rfl rfl 0 (by decide) hk4 (fun _ h9 => h9) rfl dX7_step_144 ?_
            refine lv_aload_n hx hb dX7_step_147 rfl (lv_at hl 0 rfl) ?_
            refine va_get (D := (dC, dI)) (ci := 7) (v := .int x1) (C := RX7) (T := TX7) (N := 8) hx hb hts hi7 hown hK hP 0 rfl rfl 4 (by decide) hk0 (fun _ h9 => h9) rfl dX7_step_148 ?_
            refine va_bald hx hb hK hP 1 0 rfl rfl (z_in rfl (by omega) (by omega)) dX7_step_151 ?_
            refine y_fini (w' := fun (u21 : Unit) => [(h0, .inr (7, [.ref h0_text, .int h0_length, .int h0_fault, .int h0_place, .int x1, .int h0_kind, .int x1, .int 0])), (h0_text, .inl (cB, 600, .inl h0_text_f))]) (va_runS (As := [.int (h0_text_f x1.toNatClampNeg)]) (rest := []) ⟨hx, hb, hml, hown, hts⟩ (k_X7_isDigit l dC dI cB cI cJ cZ cP cQ H.size (h0_text_f x1.toNatClampNeg)) (va_cwS 1 hts gX7_step_X7_isDigit rfl rfl rfl hd_X7_isDigit ⟨Nat.le_of_ble_eq_true rfl, Nat.le_of_ble_eq_true rfl⟩) (z_pS hK hP hD zX_nil [] (by decide) rfl) rfl rfl hl.1 rfl (lv_room (Nat.le_of_ble_eq_true rfl)) dX7_step_152 ⟨Nat.le_of_ble_eq_true rfl, Nat.le_of_ble_eq_true rfl⟩) hP hD hS hA [] [0, 1] [0, 1] rfl rfl (by decide) (by decide) (fun _ => rfl) (by decide) (fun r22 u21 H locs hp23 hP hD hS => ?_)
            have hP : va_P (dC, dI) vwCl [(h0, .inr (7, [.ref h0_text, .int h0_length, .int h0_fault, .int h0_place, .int x1, .int h0_kind, .int x1, .int 0])), (h0_text, .inl (cB, 600, .inl h0_text_f))] H := hP
            have hD : va_D A [(h0, .inr (7, [.ref h0_text, .int h0_length, .int h0_fault, .int h0_place, .int x1, .int h0_kind, .int x1, .int 0])), (h0_text, .inl (cB, 600, .inl h0_text_f))] := hD
            have hp23 : (r22 = 0 ∧ (((h0_text_f x1.toNatClampNeg).toInt) < 48 ∨ (48 ≤ ((h0_text_f x1.toNatClampNeg).toInt) ∧ 57 < ((h0_text_f x1.toNatClampNeg).toInt)))) ∨ (r22 = 1 ∧ 48 ≤ ((h0_text_f x1.toNatClampNeg).toInt) ∧ ((h0_text_f x1.toNatClampNeg).toInt) ≤ 57) := hp23
            rcases hp23 with f24 | f25
            · obtain ⟨rfl, f24⟩ := f24
              refine lv_if_eq (tgt := 231) hx hb dX7_step_155 (by decide) (fun _ => ?_) (fun c => absurd (by decide) c)
              refine lv_aload_n hx hb dX7_step_231 rfl (lv_at hl 0 rfl) ?_
              refine lv_aload_n hx hb dX7_step_232 rfl (lv_at hl 0 rfl) ?_
              refine va_get (D := (dC, dI)) (ci := 7) (v := .ref h0_text) (C := RX7) (T := TX7) (N := 8) hx hb hts hi7 hown hK hP 0 rfl rfl 0 (by decide) hk4 (fun _ h9 => h9) rfl dX7_step_233 ?_
              refine lv_aload_n hx hb dX7_step_236 rfl (lv_at hl 0 rfl) ?_
              refine va_get (D := (dC, dI)) (ci := 7) (v := .int x1) (C := RX7) (T := TX7) (N := 8) hx hb hts hi7 hown hK hP 0 rfl rfl 4 (by decide) hk0 (fun _ h9 => h9) rfl dX7_step_237 ?_
              refine va_bald hx hb hK hP 1 0 rfl rfl (z_in rfl (by omega) (by omega)) dX7_step_240 ?_
              refine lv_bipush (v := 59) hx hb dX7_step_241 (by decide) ?_
              refine lv_icmp_ne (tgt := 250) hx hb dX7_step_243 (by decide) (fun c_26 => ?_) (fun c_26 => ?_)
              · have f27 : ¬ (h0_text_f x1.toNatClampNeg).toInt = 59 := z_ne rfl (show Int32.toInt 59 = 59 from by decide) c_26
                refine lv_iconst (v := 4) hx hb dX7_step_250 (by decide) ?_
                refine va_put (D := (dC, dI)) (ci := 7) (v := .int 4) (ty := .int) (C := RX7) (T := TX7) (N := 8) hx hb hts hi7 tyX7 tyX7_ok nmX7 hown hK hP hD hS 0 rfl rfl 5 (by decide) hk5 (fun _ h9 => h9) rfl (by decide +kernel) rfl rfl (Nat.le_of_ble_eq_true rfl) dX7_step_251 (fun H locs hP hD hS => ?_)
                have hP : va_P (dC, dI) vwCl [(h0, .inr (7, [.ref h0_text, .int h0_length, .int h0_fault, .int h0_place, .int x1, .int 4, .int x1, .int 0])), (h0_text, .inl (cB, 600, .inl h0_text_f))] H := hP
                have hD : va_D A [(h0, .inr (7, [.ref h0_text, .int h0_length, .int h0_fault, .int h0_place, .int x1, .int 4, .int x1, .int 0])), (h0_text, .inl (cB, 600, .inl h0_text_f))] := hD
                refine lv_aload_n hx hb dX7_step_254 rfl (lv_at hl 0 rfl) ?_
                refine lv_dup hx hb dX7_step_255 rfl ?_
                refine va_get (D := (dC, dI)) (ci := 7) (v := .int x1) (C := RX7) (T := TX7) (N := 8) hx hb hts hi7 hown hK hP 0 rfl rfl 4 (by decide) hk0 (fun _ h9 => h9) rfl dX7_step_256 ?_
                refine lv_iconst (v := 1) hx hb dX7_step_259 (by decide) ?_
                refine lv_iadd hx hb dX7_step_260 ?_
                refine lv_topi (fun r28 h29 => ?_)
                have f30 : r28.toInt = x1.toInt + 1 := z_iadd h29 rfl (show Int32.toInt 1 = 1 from by decide) (by omega) (by omega)
                refine va_put (D := (dC, dI)) (ci := 7) (v := .int r28) (ty := .int) (C := RX7) (T := TX7) (N := 8) hx hb hts hi7 tyX7 tyX7_ok nmX7 hown hK hP hD hS 0 rfl rfl 4 (by decide) hk0 (fun _ h9 => h9) rfl (by decide +kernel) rfl rfl (Nat.le_of_ble_eq_true rfl) dX7_step_261 (fun H locs hP hD hS => ?_)
                have hP : va_P (dC, dI) vwCl [(h0, .inr (7, [.ref h0_text, .int h0_length, .int h0_fault, .int h0_place, .int r28, .int 4, .int x1, .int 0])), (h0_text, .inl (cB, 600, .inl h0_text_f))] H := hP
                have hD : va_D A [(h0, .inr (7, [.ref h0_text, .int h0_length, .int h0_fault, .int h0_place, .int r28, .int 4, .int x1, .int 0])), (h0_text, .inl (cB, 600, .inl h0_text_f))] := hD
                exact y_vret ((r28, 4, x1, 0) : Int32 × Int32 × Int32 × Int32) hx hb hr hlocks hK hP hD hS hAe hQ rfl ⟨(show 0 ≤ h0_length.toInt from by omega), (show h0_length.toInt ≤ 600 from by omega), (show 0 ≤ r28.toInt from by omega), (show r28.toInt ≤ 600 from by omega), (show 0 ≤ x1.toInt from by omega), (show x1.toInt ≤ 600 from by omega)⟩ dX7_step_264
              · have f27 : (h0_text_f x1.toNatClampNeg).toInt = 59 := z_eq rfl (show Int32.toInt 59 = 59 from by decide) c_26
                refine lv_iconst (v := 3) hx hb dX7_step_246 (by decide) ?_
                refine lv_goto (tgt := 251) hx hb dX7_step_247 (by decide) ?_
                refine va_put (D := (dC, dI)) (ci := 7) (v := .int 3) (ty := .int) (C := RX7) (T := TX7) (N := 8) hx hb hts hi7 tyX7 tyX7_ok nmX7 hown hK hP hD hS 0 rfl rfl 5 (by decide) hk5 (fun _ h9 => h9) rfl (by decide +kernel) rfl rfl (Nat.le_of_ble_eq_true rfl) dX7_step_251 (fun H locs hP hD hS => ?_)
                have hP : va_P (dC, dI) vwCl [(h0, .inr (7, [.ref h0_text, .int h0_length, .int h0_fault, .int h0_place, .int x1, .int 3, .int x1, .int 0])), (h0_text, .inl (cB, 600, .inl h0_text_f))] H := hP
                have hD : va_D A [(h0, .inr (7, [.ref h0_text, .int h0_length, .int h0_fault, .int h0_place, .int x1, .int 3, .int x1, .int 0])), (h0_text, .inl (cB, 600, .inl h0_text_f))] := hD
                refine lv_aload_n hx hb dX7_step_254 rfl (lv_at hl 0 rfl) ?_
                refine lv_dup hx hb dX7_step_255 rfl ?_
                refine va_get (D := (dC, dI)) (ci := 7) (v := .int x1) (C := RX7) (T := TX7) (N := 8) hx hb hts hi7 hown hK hP 0 rfl rfl 4 (by decide) hk0 (fun _ h9 => h9) rfl dX7_step_256 ?_
                refine lv_iconst (v := 1) hx hb dX7_step_259 (by decide) ?_
                refine lv_iadd hx hb dX7_step_260 ?_
                refine lv_topi (fun r31 h32 => ?_)
                have f33 : r31.toInt = x1.toInt + 1 := z_iadd h32 rfl (show Int32.toInt 1 = 1 from by decide) (by omega) (by omega)
                refine va_put (D := (dC, dI)) (ci := 7) (v := .int r31) (ty := .int) (C := RX7) (T := TX7) (N := 8) hx hb hts hi7 tyX7 tyX7_ok nmX7 hown hK hP hD hS 0 rfl rfl 4 (by decide) hk0 (fun _ h9 => h9) rfl (by decide +kernel) rfl rfl (Nat.le_of_ble_eq_true rfl) dX7_step_261 (fun H locs hP hD hS => ?_)
                have hP : va_P (dC, dI) vwCl [(h0, .inr (7, [.ref h0_text, .int h0_length, .int h0_fault, .int h0_place, .int r31, .int 3, .int x1, .int 0])), (h0_text, .inl (cB, 600, .inl h0_text_f))] H := hP
                have hD : va_D A [(h0, .inr (7, [.ref h0_text, .int h0_length, .int h0_fault, .int h0_place, .int r31, .int 3, .int x1, .int 0])), (h0_text, .inl (cB, 600, .inl h0_text_f))] := hD
                exact y_vret ((r31, 3, x1, 0) : Int32 × Int32 × Int32 × Int32) hx hb hr hlocks hK hP hD hS hAe hQ rfl ⟨(show 0 ≤ h0_length.toInt from by omega), (show h0_length.toInt ≤ 600 from by omega), (show 0 ≤ r31.toInt from by omega), (show r31.toInt ≤ 600 from by omega), (show 0 ≤ x1.toInt from by omega), (show x1.toInt ≤ 600 from by omega)⟩ dX7_step_264
            · obtain ⟨rfl, f25⟩ := f25
              refine lv_if_eq (tgt := 231) hx hb dX7_step_155 (by decide) (fun c => absurd c (by decide)) (fun _ => ?_)
              refine lv_aload_n hx hb dX7_step_158 rfl (lv_at hl 0 rfl) ?_
              refine lv_iconst (v := 2) hx hb dX7_step_159 (by decide) ?_
              refine va_put (D := (dC, dI)) (ci := 7) (v := .int 2) (ty := .int) (C := RX7) (T := TX7) (N := 8) hx hb hts hi7 tyX7 tyX7_ok nmX7 hown hK hP hD hS 0 rfl rfl 5 (by decide) hk5 (fun _ h9 => h9) rfl (by decide +kernel) rfl rfl (Nat.le_of_ble_eq_true rfl) dX7_step_160 (fun H locs hP hD hS => ?_)
              have hP : va_P (dC, dI) vwCl [(h0, .inr (7, [.ref h0_text, .int h0_length, .int h0_fault, .int h0_place, .int x1, .int 2, .int x1, .int 0])), (h0_text, .inl (cB, 600, .inl h0_text_f))] H := hP
              have hD : va_D A [(h0, .inr (7, [.ref h0_text, .int h0_length, .int h0_fault, .int h0_place, .int x1, .int 2, .int x1, .int 0])), (h0_text, .inl (cB, 600, .inl h0_text_f))] := hD
              have hlp36 : ∀ (n37 : Nat) (x34 : Int32) (x35 : Int32), 601 - x34.toInt < (n37 : Int) → 0 ≤ h0_length.toInt → h0_length.toInt ≤ 600 → 0 ≤ x34.toInt → x34.toInt ≤ 600 → 0 ≤ x1.toInt → x1.toInt ≤ 600 → ∀ (H : Heap) (locs : List Loc), va_P (dC, dI) vwCl [(h0, .inr (7, [.ref h0_text, .int h0_length, .int h0_fault, .int h0_place, .int x34, .int 2, .int x1, .int x35])), (h0_text, .inl (cB, 600, .inl h0_text_f))] H → va_D A [(h0, .inr (7, [.ref h0_text, .int h0_length, .int h0_fault, .int h0_place, .int x34, .int 2, .int x1, .int x35])), (h0_text, .inl (cB, 600, .inl h0_text_f))] → va_S A s.heap H locs → ∀ (ls : Array Slot), lv_has ls 1 [(0, .ref h0)] → W p l e ({ frames := 1, cells := 0, slots := 0, locals := 40 } : Room) s m ([.ref h0] : List Value).toArray below meth c H locs 0 0 Q (F0 m 163 ls []) := by
                intro n37
                induction n37 with
                | zero =>
                  intro x34 x35 hm44 k38 k39 k40 k41 k42 k43
                  exact absurd hm44 (by omega)
                | succ n37 ih45 =>
                  intro x34 x35 hm44 k38 k39 k40 k41 k42 k43 H locs hP hD hS ls hl
                  refine lv_aload_n hx hb dX7_step_163 rfl (lv_at hl 0 rfl) ?_
                  refine va_get (D := (dC, dI)) (ci := 7) (v := .int x34) (C := RX7) (T := TX7) (N := 8) hx hb hts hi7 hown hK hP 0 rfl rfl 4 (by decide) hk0 (fun _ h9 => h9) rfl dX7_step_164 ?_
                  refine lv_aload_n hx hb dX7_step_167 rfl (lv_at hl 0 rfl) ?_
                  refine va_get (D := (dC, dI)) (ci := 7) (v := .int h0_length) (C := RX7) (T := TX7) (N := 8) hx hb hts hi7 hown hK hP 0 rfl rfl 1 (by decide) hk1 (fun _ h9 => h9) rfl dX7_step_168 ?_
                  refine lv_icmp_ge (tgt := 264) hx hb dX7_step_171 (by decide) (fun c_46 => ?_) (fun c_46 => ?_)
                  · have f47 : h0_length.toInt ≤ x34.toInt := z_le rfl rfl c_46
                    exact y_vret ((x34, 2, x1, x35) : Int32 × Int32 × Int32 × Int32) hx hb hr hlocks hK hP hD hS hAe hQ rfl ⟨(show 0 ≤ h0_length.toInt from by omega), (show h0_length.toInt ≤ 600 from by omega), (show 0 ≤ x34.toInt from by omega), (show x34.toInt ≤ 600 from by omega), (show 0 ≤ x1.toInt from by omega), (show x1.toInt ≤ 600 from by omega)⟩ dX7_step_264
                  · have f47 : x34.toInt < h0_length.toInt := z_nle rfl rfl c_46
                    refine lv_aload_n hx hb dX7_step_174 rfl (lv_at hl 0 rfl) ?_
                    refine va_get (D := (dC, dI)) (ci := 7) (v := .ref h0_text) (C := RX7) (T := TX7) (N := 8) hx hb hts hi7 hown hK hP 0 rfl rfl 0 (by decide) hk4 (fun _ h9 => h9) rfl dX7_step_175 ?_
                    refine lv_aload_n hx hb dX7_step_178 rfl (lv_at hl 0 rfl) ?_
                    refine va_get (D := (dC, dI)) (ci := 7) (v := .int x34) (C := RX7) (T := TX7) (N := 8) hx hb hts hi7 hown hK hP 0 rfl rfl 4 (by decide) hk0 (fun _ h9 => h9) rfl dX7_step_179 ?_
                    refine va_bald hx hb hK hP 1 0 rfl rfl (z_in rfl (by omega) (by omega)) dX7_step_182 ?_
                    refine y_fini (w' := fun (u48 : Unit) => [(h0, .inr (7, [.ref h0_text, .int h0_length, .int h0_fault, .int h0_place, .int x34, .int 2, .int x1, .int x35])), (h0_text, .inl (cB, 600, .inl h0_text_f))]) (va_runS (As := [.int (h0_text_f x34.toNatClampNeg)]) (rest := []) ⟨hx, hb, hml, hown, hts⟩ (k_X7_isDigit l dC dI cB cI cJ cZ cP cQ H.size (h0_text_f x34.toNatClampNeg)) (va_cwS 1 hts gX7_step_X7_isDigit rfl rfl rfl hd_X7_isDigit ⟨Nat.le_of_ble_eq_true rfl, Nat.le_of_ble_eq_true rfl⟩) (z_pS hK hP hD zX_nil [] (by decide) rfl) rfl rfl hl.1 rfl (lv_room (Nat.le_of_ble_eq_true rfl)) dX7_step_183 ⟨Nat.le_of_ble_eq_true rfl, Nat.le_of_ble_eq_true rfl⟩) hP hD hS hA [] [0, 1] [0, 1] rfl rfl (by decide) (by decide) (fun _ => rfl) (by decide) (fun r49 u48 H locs hp50 hP hD hS => ?_)
                    have hP : va_P (dC, dI) vwCl [(h0, .inr (7, [.ref h0_text, .int h0_length, .int h0_fault, .int h0_place, .int x34, .int 2, .int x1, .int x35])), (h0_text, .inl (cB, 600, .inl h0_text_f))] H := hP
                    have hD : va_D A [(h0, .inr (7, [.ref h0_text, .int h0_length, .int h0_fault, .int h0_place, .int x34, .int 2, .int x1, .int x35])), (h0_text, .inl (cB, 600, .inl h0_text_f))] := hD
                    have hp50 : (r49 = 0 ∧ (((h0_text_f x34.toNatClampNeg).toInt) < 48 ∨ (48 ≤ ((h0_text_f x34.toNatClampNeg).toInt) ∧ 57 < ((h0_text_f x34.toNatClampNeg).toInt)))) ∨ (r49 = 1 ∧ 48 ≤ ((h0_text_f x34.toNatClampNeg).toInt) ∧ ((h0_text_f x34.toNatClampNeg).toInt) ≤ 57) := hp50
                    rcases hp50 with f51 | f52
                    · obtain ⟨rfl, f51⟩ := f51
                      refine lv_if_eq (tgt := 264) hx hb dX7_step_186 (by decide) (fun _ => ?_) (fun c => absurd (by decide) c)
                      exact y_vret ((x34, 2, x1, x35) : Int32 × Int32 × Int32 × Int32) hx hb hr hlocks hK hP hD hS hAe hQ rfl ⟨(show 0 ≤ h0_length.toInt from by omega), (show h0_length.toInt ≤ 600 from by omega), (show 0 ≤ x34.toInt from by omega), (show x34.toInt ≤ 600 from by omega), (show 0 ≤ x1.toInt from by omega), (show x1.toInt ≤ 600 from by omega)⟩ dX7_step_264
                    · obtain ⟨rfl, f52⟩ := f52
                      refine lv_if_eq (tgt := 264) hx hb dX7_step_186 (by decide) (fun c => absurd c (by decide)) (fun _ => ?_)
                      refine lv_aload_n hx hb dX7_step_189 rfl (lv_at hl 0 rfl) ?_
                      refine lv_ldc hx hb hown hk6 dX7_step_190 ?_
                      refine lv_bipush (v := 10) hx hb dX7_step_192 (by decide) ?_
                      refine lv_aload_n hx hb dX7_step_194 rfl (lv_at hl 0 rfl) ?_
                      refine va_get (D := (dC, dI)) (ci := 7) (v := .int x35) (C := RX7) (T := TX7) (N := 8) hx hb hts hi7 hown hK hP 0 rfl rfl 7 (by decide) hk3 (fun _ h9 => h9) rfl dX7_step_195 ?_
                      refine lv_imul hx hb dX7_step_198 ?_
                      refine lv_topi (fun r53 _ => ?_)
                      refine lv_aload_n hx hb dX7_step_199 rfl (lv_at hl 0 rfl) ?_
                      refine va_get (D := (dC, dI)) (ci := 7) (v := .ref h0_text) (C := RX7) (T := TX7) (N := 8) hx hb hts hi7 hown hK hP 0 rfl rfl 0 (by decide) hk4 (fun _ h9 => h9) rfl dX7_step_200 ?_
                      refine lv_aload_n hx hb dX7_step_203 rfl (lv_at hl 0 rfl) ?_
                      refine va_get (D := (dC, dI)) (ci := 7) (v := .int x34) (C := RX7) (T := TX7) (N := 8) hx hb hts hi7 hown hK hP 0 rfl rfl 4 (by decide) hk0 (fun _ h9 => h9) rfl dX7_step_204 ?_
                      refine va_bald hx hb hK hP 1 0 rfl rfl (z_in rfl (by omega) (by omega)) dX7_step_207 ?_
                      refine lv_iadd hx hb dX7_step_208 ?_
                      refine lv_topi (fun r54 _ => ?_)
                      refine lv_bipush (v := 48) hx hb dX7_step_209 (by decide) ?_
                      refine lv_isub hx hb dX7_step_211 ?_
                      refine lv_topi (fun r55 _ => ?_)
                      refine va_mmin hx hb (by rw [hml]; exact hl.1.symm) hown hk7 hk8 hk9 hk10 (Nat.le_of_ble_eq_true rfl) (Nat.le_of_ble_eq_true rfl) (Nat.le_of_ble_eq_true rfl) (Nat.le_of_ble_eq_true rfl) dX7_step_212 ?_
                      refine lv_topi (fun r56 h57 => ?_)
                      have f58 : r56.toInt ≤ 100000 ∧ r56.toInt ≤ r55.toInt ∧ (r56.toInt = 100000 ∨ r56.toInt = r55.toInt) := z_mmini h57 (show Int32.toInt 100000 = 100000 from by decide) rfl
                      refine va_put (D := (dC, dI)) (ci := 7) (v := .int r56) (ty := .int) (C := RX7) (T := TX7) (N := 8) hx hb hts hi7 tyX7 tyX7_ok nmX7 hown hK hP hD hS 0 rfl rfl 7 (by decide) hk3 (fun _ h9 => h9) rfl (by decide +kernel) rfl rfl (Nat.le_of_ble_eq_true rfl) dX7_step_215 (fun H locs hP hD hS => ?_)
                      have hP : va_P (dC, dI) vwCl [(h0, .inr (7, [.ref h0_text, .int h0_length, .int h0_fault, .int h0_place, .int x34, .int 2, .int x1, .int r56])), (h0_text, .inl (cB, 600, .inl h0_text_f))] H := hP
                      have hD : va_D A [(h0, .inr (7, [.ref h0_text, .int h0_length, .int h0_fault, .int h0_place, .int x34, .int 2, .int x1, .int r56])), (h0_text, .inl (cB, 600, .inl h0_text_f))] := hD
                      refine lv_aload_n hx hb dX7_step_218 rfl (lv_at hl 0 rfl) ?_
                      refine lv_dup hx hb dX7_step_219 rfl ?_
                      refine va_get (D := (dC, dI)) (ci := 7) (v := .int x34) (C := RX7) (T := TX7) (N := 8) hx hb hts hi7 hown hK hP 0 rfl rfl 4 (by decide) hk0 (fun _ h9 => h9) rfl dX7_step_220 ?_
                      refine lv_iconst (v := 1) hx hb dX7_step_223 (by decide) ?_
                      refine lv_iadd hx hb dX7_step_224 ?_
                      refine lv_topi (fun r59 h60 => ?_)
                      have f61 : r59.toInt = x34.toInt + 1 := z_iadd h60 rfl (show Int32.toInt 1 = 1 from by decide) (by omega) (by omega)
                      refine va_put (D := (dC, dI)) (ci := 7) (v := .int r59) (ty := .int) (C := RX7) (T := TX7) (N := 8) hx hb hts hi7 tyX7 tyX7_ok nmX7 hown hK hP hD hS 0 rfl rfl 4 (by decide) hk0 (fun _ h9 => h9) rfl (by decide +kernel) rfl rfl (Nat.le_of_ble_eq_true rfl) dX7_step_225 (fun H locs hP hD hS => ?_)
                      have hP : va_P (dC, dI) vwCl [(h0, .inr (7, [.ref h0_text, .int h0_length, .int h0_fault, .int h0_place, .int r59, .int 2, .int x1, .int r56])), (h0_text, .inl (cB, 600, .inl h0_text_f))] H := hP
                      have hD : va_D A [(h0, .inr (7, [.ref h0_text, .int h0_length, .int h0_fault, .int h0_place, .int r59, .int 2, .int x1, .int r56])), (h0_text, .inl (cB, 600, .inl h0_text_f))] := hD
                      refine lv_goto (tgt := 163) hx hb dX7_step_228 (by decide) ?_
                      exact ih45 r59 r56 (show 601 - r59.toInt < (n37 : Int) from by omega) (show 0 ≤ h0_length.toInt from by omega) (show h0_length.toInt ≤ 600 from by omega) (show 0 ≤ r59.toInt from by omega) (show r59.toInt ≤ 600 from by omega) (show 0 ≤ x1.toInt from by omega) (show x1.toInt ≤ 600 from by omega) _ _ hP hD hS ls (lv_sub hl [0] rfl)
              exact hlp36 (601 - x1.toInt + 1).toNat x1 0 (show 601 - x1.toInt < ((601 - x1.toInt + 1).toNat : Int) from by omega) (show 0 ≤ h0_length.toInt from by omega) (show h0_length.toInt ≤ 600 from by omega) (show 0 ≤ x1.toInt from by omega) (show x1.toInt ≤ 600 from by omega) (show 0 ≤ x1.toInt from by omega) (show x1.toInt ≤ 600 from by omega) _ _ hP hD hS ls (lv_sub hl [0] rfl)
          · obtain ⟨rfl, f20⟩ := f20
            refine lv_if_eq (tgt := 143) hx hb dX7_step_96 (by decide) (fun c => absurd c (by decide)) (fun _ => ?_)
            refine lv_aload_n hx hb dX7_step_99 rfl (lv_at hl 0 rfl) ?_
            refine lv_iconst (v := 1) hx hb dX7_step_100 (by decide) ?_
            refine va_put (D := (dC, dI)) (ci := 7) (v := .int 1) (ty := .int) (C := RX7) (T := TX7) (N := 8) hx hb hts hi7 tyX7 tyX7_ok nmX7 hown hK hP hD hS 0 rfl rfl 5 (by decide) hk5 (fun _ h9 => h9) rfl (by decide +kernel) rfl rfl (Nat.le_of_ble_eq_true rfl) dX7_step_101 (fun H locs hP hD hS => ?_)
            have hP : va_P (dC, dI) vwCl [(h0, .inr (7, [.ref h0_text, .int h0_length, .int h0_fault, .int h0_place, .int x1, .int 1, .int x1, .int 0])), (h0_text, .inl (cB, 600, .inl h0_text_f))] H := hP
            have hD : va_D A [(h0, .inr (7, [.ref h0_text, .int h0_length, .int h0_fault, .int h0_place, .int x1, .int 1, .int x1, .int 0])), (h0_text, .inl (cB, 600, .inl h0_text_f))] := hD
            have hlp63 : ∀ (n64 : Nat) (x62 : Int32), 601 - x62.toInt < (n64 : Int) → 0 ≤ h0_length.toInt → h0_length.toInt ≤ 600 → 0 ≤ x62.toInt → x62.toInt ≤ 600 → 0 ≤ x1.toInt → x1.toInt ≤ 600 → ∀ (H : Heap) (locs : List Loc), va_P (dC, dI) vwCl [(h0, .inr (7, [.ref h0_text, .int h0_length, .int h0_fault, .int h0_place, .int x62, .int 1, .int x1, .int 0])), (h0_text, .inl (cB, 600, .inl h0_text_f))] H → va_D A [(h0, .inr (7, [.ref h0_text, .int h0_length, .int h0_fault, .int h0_place, .int x62, .int 1, .int x1, .int 0])), (h0_text, .inl (cB, 600, .inl h0_text_f))] → va_S A s.heap H locs → ∀ (ls : Array Slot), lv_has ls 1 [(0, .ref h0)] → W p l e ({ frames := 1, cells := 0, slots := 0, locals := 40 } : Room) s m ([.ref h0] : List Value).toArray below meth c H locs 0 0 Q (F0 m 104 ls []) := by
              intro n64
              induction n64 with
              | zero =>
                intro x62 hm71 k65 k66 k67 k68 k69 k70
                exact absurd hm71 (by omega)
              | succ n64 ih72 =>
                intro x62 hm71 k65 k66 k67 k68 k69 k70 H locs hP hD hS ls hl
                refine lv_aload_n hx hb dX7_step_104 rfl (lv_at hl 0 rfl) ?_
                refine va_get (D := (dC, dI)) (ci := 7) (v := .int x62) (C := RX7) (T := TX7) (N := 8) hx hb hts hi7 hown hK hP 0 rfl rfl 4 (by decide) hk0 (fun _ h9 => h9) rfl dX7_step_105 ?_
                refine lv_aload_n hx hb dX7_step_108 rfl (lv_at hl 0 rfl) ?_
                refine va_get (D := (dC, dI)) (ci := 7) (v := .int h0_length) (C := RX7) (T := TX7) (N := 8) hx hb hts hi7 hown hK hP 0 rfl rfl 1 (by decide) hk1 (fun _ h9 => h9) rfl dX7_step_109 ?_
                refine lv_icmp_ge (tgt := 264) hx hb dX7_step_112 (by decide) (fun c_73 => ?_) (fun c_73 => ?_)
                · have f74 : h0_length.toInt ≤ x62.toInt := z_le rfl rfl c_73
                  exact y_vret ((x62, 1, x1, 0) : Int32 × Int32 × Int32 × Int32) hx hb hr hlocks hK hP hD hS hAe hQ rfl ⟨(show 0 ≤ h0_length.toInt from by omega), (show h0_length.toInt ≤ 600 from by omega), (show 0 ≤ x62.toInt from by omega), (show x62.toInt ≤ 600 from by omega), (show 0 ≤ x1.toInt from by omega), (show x1.toInt ≤ 600 from by omega)⟩ dX7_step_264
                · have f74 : x62.toInt < h0_length.toInt := z_nle rfl rfl c_73
                  refine lv_aload_n hx hb dX7_step_115 rfl (lv_at hl 0 rfl) ?_
                  refine va_get (D := (dC, dI)) (ci := 7) (v := .ref h0_text) (C := RX7) (T := TX7) (N := 8) hx hb hts hi7 hown hK hP 0 rfl rfl 0 (by decide) hk4 (fun _ h9 => h9) rfl dX7_step_116 ?_
                  refine lv_aload_n hx hb dX7_step_119 rfl (lv_at hl 0 rfl) ?_
                  refine va_get (D := (dC, dI)) (ci := 7) (v := .int x62) (C := RX7) (T := TX7) (N := 8) hx hb hts hi7 hown hK hP 0 rfl rfl 4 (by decide) hk0 (fun _ h9 => h9) rfl dX7_step_120 ?_
                  refine va_bald hx hb hK hP 1 0 rfl rfl (z_in rfl (by omega) (by omega)) dX7_step_123 ?_
                  refine y_fini (w' := fun (u75 : Unit) => [(h0, .inr (7, [.ref h0_text, .int h0_length, .int h0_fault, .int h0_place, .int x62, .int 1, .int x1, .int 0])), (h0_text, .inl (cB, 600, .inl h0_text_f))]) (va_runS (As := [.int (h0_text_f x62.toNatClampNeg)]) (rest := []) ⟨hx, hb, hml, hown, hts⟩ (k_X7_isLetter l dC dI cB cI cJ cZ cP cQ H.size (h0_text_f x62.toNatClampNeg)) (va_cwS 1 hts gX7_step_X7_isLetter rfl rfl rfl hd_X7_isLetter ⟨Nat.le_of_ble_eq_true rfl, Nat.le_of_ble_eq_true rfl⟩) (z_pS hK hP hD zX_nil [] (by decide) rfl) rfl rfl hl.1 rfl (lv_room (Nat.le_of_ble_eq_true rfl)) dX7_step_124 ⟨Nat.le_of_ble_eq_true rfl, Nat.le_of_ble_eq_true rfl⟩) hP hD hS hA [] [0, 1] [0, 1] rfl rfl (by decide) (by decide) (fun _ => rfl) (by decide) (fun r76 u75 H locs hp77 hP hD hS => ?_)
                  have hP : va_P (dC, dI) vwCl [(h0, .inr (7, [.ref h0_text, .int h0_length, .int h0_fault, .int h0_place, .int x62, .int 1, .int x1, .int 0])), (h0_text, .inl (cB, 600, .inl h0_text_f))] H := hP
                  have hD : va_D A [(h0, .inr (7, [.ref h0_text, .int h0_length, .int h0_fault, .int h0_place, .int x62, .int 1, .int x1, .int 0])), (h0_text, .inl (cB, 600, .inl h0_text_f))] := hD
                  have hp77 : (r76 = 0 ∧ (((h0_text_f x62.toNatClampNeg).toInt) < 97 ∨ (97 ≤ ((h0_text_f x62.toNatClampNeg).toInt) ∧ 122 < ((h0_text_f x62.toNatClampNeg).toInt)))) ∨ (r76 = 1 ∧ 97 ≤ ((h0_text_f x62.toNatClampNeg).toInt) ∧ ((h0_text_f x62.toNatClampNeg).toInt) ≤ 122) := hp77
                  rcases hp77 with f78 | f79
                  · obtain ⟨rfl, f78⟩ := f78
                    refine lv_if_eq (tgt := 264) hx hb dX7_step_127 (by decide) (fun _ => ?_) (fun c => absurd (by decide) c)
                    exact y_vret ((x62, 1, x1, 0) : Int32 × Int32 × Int32 × Int32) hx hb hr hlocks hK hP hD hS hAe hQ rfl ⟨(show 0 ≤ h0_length.toInt from by omega), (show h0_length.toInt ≤ 600 from by omega), (show 0 ≤ x62.toInt from by omega), (show x62.toInt ≤ 600 from by omega), (show 0 ≤ x1.toInt from by omega), (show x1.toInt ≤ 600 from by omega)⟩ dX7_step_264
                  · obtain ⟨rfl, f79⟩ := f79
                    refine lv_if_eq (tgt := 264) hx hb dX7_step_127 (by decide) (fun c => absurd c (by decide)) (fun _ => ?_)
                    refine lv_aload_n hx hb dX7_step_130 rfl (lv_at hl 0 rfl) ?_
                    refine lv_dup hx hb dX7_step_131 rfl ?_
                    refine va_get (D := (dC, dI)) (ci := 7) (v := .int x62) (C := RX7) (T := TX7) (N := 8) hx hb hts hi7 hown hK hP 0 rfl rfl 4 (by decide) hk0 (fun _ h9 => h9) rfl dX7_step_132 ?_
                    refine lv_iconst (v := 1) hx hb dX7_step_135 (by decide) ?_
                    refine lv_iadd hx hb dX7_step_136 ?_
                    refine lv_topi (fun r80 h81 => ?_)
                    have f82 : r80.toInt = x62.toInt + 1 := z_iadd h81 rfl (show Int32.toInt 1 = 1 from by decide) (by omega) (by omega)
                    refine va_put (D := (dC, dI)) (ci := 7) (v := .int r80) (ty := .int) (C := RX7) (T := TX7) (N := 8) hx hb hts hi7 tyX7 tyX7_ok nmX7 hown hK hP hD hS 0 rfl rfl 4 (by decide) hk0 (fun _ h9 => h9) rfl (by decide +kernel) rfl rfl (Nat.le_of_ble_eq_true rfl) dX7_step_137 (fun H locs hP hD hS => ?_)
                    have hP : va_P (dC, dI) vwCl [(h0, .inr (7, [.ref h0_text, .int h0_length, .int h0_fault, .int h0_place, .int r80, .int 1, .int x1, .int 0])), (h0_text, .inl (cB, 600, .inl h0_text_f))] H := hP
                    have hD : va_D A [(h0, .inr (7, [.ref h0_text, .int h0_length, .int h0_fault, .int h0_place, .int r80, .int 1, .int x1, .int 0])), (h0_text, .inl (cB, 600, .inl h0_text_f))] := hD
                    refine lv_goto (tgt := 104) hx hb dX7_step_140 (by decide) ?_
                    exact ih72 r80 (show 601 - r80.toInt < (n64 : Int) from by omega) (show 0 ≤ h0_length.toInt from by omega) (show h0_length.toInt ≤ 600 from by omega) (show 0 ≤ r80.toInt from by omega) (show r80.toInt ≤ 600 from by omega) (show 0 ≤ x1.toInt from by omega) (show x1.toInt ≤ 600 from by omega) _ _ hP hD hS ls (lv_sub hl [0] rfl)
            exact hlp63 (601 - x1.toInt + 1).toNat x1 (show 601 - x1.toInt < ((601 - x1.toInt + 1).toNat : Int) from by omega) (show 0 ≤ h0_length.toInt from by omega) (show h0_length.toInt ≤ 600 from by omega) (show 0 ≤ x1.toInt from by omega) (show x1.toInt ≤ 600 from by omega) (show 0 ≤ x1.toInt from by omega) (show x1.toInt ≤ 600 from by omega) _ _ hP hD hS ls (lv_sub hl [0] rfl)
        · have f15 : h0_length.toInt ≤ x1.toInt := z_nlt rfl rfl c_14
          refine lv_aload_n hx hb dX7_step_76 rfl (lv_at hl 0 rfl) ?_
          refine lv_iconst (v := 0) hx hb dX7_step_77 (by decide) ?_
          refine va_put (D := (dC, dI)) (ci := 7) (v := .int 0) (ty := .int) (C := RX7) (T := TX7) (N := 8) hx hb hts hi7 tyX7 tyX7_ok nmX7 hown hK hP hD hS 0 rfl rfl 5 (by decide) hk5 (fun _ h9 => h9) rfl (by decide +kernel) rfl rfl (Nat.le_of_ble_eq_true rfl) dX7_step_78 (fun H locs hP hD hS => ?_)
          have hP : va_P (dC, dI) vwCl [(h0, .inr (7, [.ref h0_text, .int h0_length, .int h0_fault, .int h0_place, .int x1, .int 0, .int x1, .int 0])), (h0_text, .inl (cB, 600, .inl h0_text_f))] H := hP
          have hD : va_D A [(h0, .inr (7, [.ref h0_text, .int h0_length, .int h0_fault, .int h0_place, .int x1, .int 0, .int x1, .int 0])), (h0_text, .inl (cB, 600, .inl h0_text_f))] := hD
          refine lv_goto (tgt := 264) hx hb dX7_step_81 (by decide) ?_
          exact y_vret ((x1, 0, x1, 0) : Int32 × Int32 × Int32 × Int32) hx hb hr hlocks hK hP hD hS hAe hQ rfl ⟨(show 0 ≤ h0_length.toInt from by omega), (show h0_length.toInt ≤ 600 from by omega), (show 0 ≤ x1.toInt from by omega), (show x1.toInt ≤ 600 from by omega), (show 0 ≤ x1.toInt from by omega), (show x1.toInt ≤ 600 from by omega)⟩ dX7_step_264
      · have f13 : x1.toInt < h0_length.toInt := z_nle rfl rfl c_12
        refine lv_aload_n hx hb dX7_step_11 rfl (lv_at hl 0 rfl) ?_
        refine va_get (D := (dC, dI)) (ci := 7) (v := .ref h0_text) (C := RX7) (T := TX7) (N := 8) hx hb hts hi7 hown hK hP 0 rfl rfl 0 (by decide) hk4 (fun _ h9 => h9) rfl dX7_step_12 ?_
        refine lv_aload_n hx hb dX7_step_15 rfl (lv_at hl 0 rfl) ?_
        refine va_get (D := (dC, dI)) (ci := 7) (v := .int x1) (C := RX7) (T := TX7) (N := 8) hx hb hts hi7 hown hK hP 0 rfl rfl 4 (by decide) hk0 (fun _ h9 => h9) rfl dX7_step_16 ?_
        refine va_bald hx hb hK hP 1 0 rfl rfl (z_in rfl (by omega) (by omega)) dX7_step_19 ?_
        refine lv_bipush (v := 32) hx hb dX7_step_20 (by decide) ?_
        refine lv_icmp_eq (tgt := 39) hx hb dX7_step_22 (by decide) (fun c_83 => ?_) (fun c_83 => ?_)
        · have f84 : (h0_text_f x1.toNatClampNeg).toInt = 32 := z_eq rfl (show Int32.toInt 32 = 32 from by decide) c_83
          refine lv_aload_n hx hb dX7_step_39 rfl (lv_at hl 0 rfl) ?_
          refine lv_dup hx hb dX7_step_40 rfl ?_
          refine va_get (D := (dC, dI)) (ci := 7) (v := .int x1) (C := RX7) (T := TX7) (N := 8) hx hb hts hi7 hown hK hP 0 rfl rfl 4 (by decide) hk0 (fun _ h9 => h9) rfl dX7_step_41 ?_
          refine lv_iconst (v := 1) hx hb dX7_step_44 (by decide) ?_
          refine lv_iadd hx hb dX7_step_45 ?_
          refine lv_topi (fun r85 h86 => ?_)
          have f87 : r85.toInt = x1.toInt + 1 := z_iadd h86 rfl (show Int32.toInt 1 = 1 from by decide) (by omega) (by omega)
          refine va_put (D := (dC, dI)) (ci := 7) (v := .int r85) (ty := .int) (C := RX7) (T := TX7) (N := 8) hx hb hts hi7 tyX7 tyX7_ok nmX7 hown hK hP hD hS 0 rfl rfl 4 (by decide) hk0 (fun _ h9 => h9) rfl (by decide +kernel) rfl rfl (Nat.le_of_ble_eq_true rfl) dX7_step_46 (fun H locs hP hD hS => ?_)
          have hP : va_P (dC, dI) vwCl [(h0, .inr (7, [.ref h0_text, .int h0_length, .int h0_fault, .int h0_place, .int r85, .int h0_kind, .int h0_start, .int h0_value])), (h0_text, .inl (cB, 600, .inl h0_text_f))] H := hP
          have hD : va_D A [(h0, .inr (7, [.ref h0_text, .int h0_length, .int h0_fault, .int h0_place, .int r85, .int h0_kind, .int h0_start, .int h0_value])), (h0_text, .inl (cB, 600, .inl h0_text_f))] := hD
          refine lv_goto (tgt := 0) hx hb dX7_step_49 (by decide) ?_
          exact ih11 r85 (show 601 - r85.toInt < (n3 : Int) from by omega) (show 0 ≤ h0_length.toInt from by omega) (show h0_length.toInt ≤ 600 from by omega) (show 0 ≤ r85.toInt from by omega) (show r85.toInt ≤ 600 from by omega) (show 0 ≤ h0_start.toInt from by omega) (show h0_start.toInt ≤ 600 from by omega) _ _ hP hD hS ls (lv_sub hl [0] rfl)
        · have f84 : ¬ (h0_text_f x1.toNatClampNeg).toInt = 32 := z_ne rfl (show Int32.toInt 32 = 32 from by decide) c_83
          refine lv_aload_n hx hb dX7_step_25 rfl (lv_at hl 0 rfl) ?_
          refine va_get (D := (dC, dI)) (ci := 7) (v := .ref h0_text) (C := RX7) (T := TX7) (N := 8) hx hb hts hi7 hown hK hP 0 rfl rfl 0 (by decide) hk4 (fun _ h9 => h9) rfl dX7_step_26 ?_
          refine lv_aload_n hx hb dX7_step_29 rfl (lv_at hl 0 rfl) ?_
          refine va_get (D := (dC, dI)) (ci := 7) (v := .int x1) (C := RX7) (T := TX7) (N := 8) hx hb hts hi7 hown hK hP 0 rfl rfl 4 (by decide) hk0 (fun _ h9 => h9) rfl dX7_step_30 ?_
          refine va_bald hx hb hK hP 1 0 rfl rfl (z_in rfl (by omega) (by omega)) dX7_step_33 ?_
          refine lv_bipush (v := 10) hx hb dX7_step_34 (by decide) ?_
          refine lv_icmp_ne (tgt := 52) hx hb dX7_step_36 (by decide) (fun c_88 => ?_) (fun c_88 => ?_)
          · have f89 : ¬ (h0_text_f x1.toNatClampNeg).toInt = 10 := z_ne rfl (show Int32.toInt 10 = 10 from by decide) c_88
            refine lv_aload_n hx hb dX7_step_52 rfl (lv_at hl 0 rfl) ?_
            refine lv_aload_n hx hb dX7_step_53 rfl (lv_at hl 0 rfl) ?_
            refine va_get (D := (dC, dI)) (ci := 7) (v := .int x1) (C := RX7) (T := TX7) (N := 8) hx hb hts hi7 hown hK hP 0 rfl rfl 4 (by decide) hk0 (fun _ h9 => h9) rfl dX7_step_54 ?_
            refine va_put (D := (dC, dI)) (ci := 7) (v := .int x1) (ty := .int) (C := RX7) (T := TX7) (N := 8) hx hb hts hi7 tyX7 tyX7_ok nmX7 hown hK hP hD hS 0 rfl rfl 6 (by decide) hk2 (fun _ h9 => h9) rfl (by decide +kernel) rfl rfl (Nat.le_of_ble_eq_true rfl) dX7_step_57 (fun H locs hP hD hS => ?_)
            have hP : va_P (dC, dI) vwCl [(h0, .inr (7, [.ref h0_text, .int h0_length, .int h0_fault, .int h0_place, .int x1, .int h0_kind, .int x1, .int h0_value])), (h0_text, .inl (cB, 600, .inl h0_text_f))] H := hP
            have hD : va_D A [(h0, .inr (7, [.ref h0_text, .int h0_length, .int h0_fault, .int h0_place, .int x1, .int h0_kind, .int x1, .int h0_value])), (h0_text, .inl (cB, 600, .inl h0_text_f))] := hD
            refine lv_aload_n hx hb dX7_step_60 rfl (lv_at hl 0 rfl) ?_
            refine lv_iconst (v := 0) hx hb dX7_step_61 (by decide) ?_
            refine va_put (D := (dC, dI)) (ci := 7) (v := .int 0) (ty := .int) (C := RX7) (T := TX7) (N := 8) hx hb hts hi7 tyX7 tyX7_ok nmX7 hown hK hP hD hS 0 rfl rfl 7 (by decide) hk3 (fun _ h9 => h9) rfl (by decide +kernel) rfl rfl (Nat.le_of_ble_eq_true rfl) dX7_step_62 (fun H locs hP hD hS => ?_)
            have hP : va_P (dC, dI) vwCl [(h0, .inr (7, [.ref h0_text, .int h0_length, .int h0_fault, .int h0_place, .int x1, .int h0_kind, .int x1, .int 0])), (h0_text, .inl (cB, 600, .inl h0_text_f))] H := hP
            have hD : va_D A [(h0, .inr (7, [.ref h0_text, .int h0_length, .int h0_fault, .int h0_place, .int x1, .int h0_kind, .int x1, .int 0])), (h0_text, .inl (cB, 600, .inl h0_text_f))] := hD
            refine lv_aload_n hx hb dX7_step_65 rfl (lv_at hl 0 rfl) ?_
            refine va_get (D := (dC, dI)) (ci := 7) (v := .int x1) (C := RX7) (T := TX7) (N := 8) hx hb hts hi7 hown hK hP 0 rfl rfl 4 (by decide) hk0 (fun _ h9 => h9) rfl dX7_step_66 ?_
            refine lv_aload_n hx hb dX7_step_69 rfl (lv_at hl 0 rfl) ?_
            refine va_get (D := (dC, dI)) (ci := 7) (v := .int h0_length) (C := RX7) (T := TX7) (N := 8) hx hb hts hi7 hown hK hP 0 rfl rfl 1 (by decide) hk1 (fun _ h9 => h9) rfl dX7_step_70 ?_
            refine lv_icmp_lt (tgt := 84) hx hb dX7_step_73 (by decide) (fun c_90 => ?_) (fun c_90 => ?_)
            · have f91 : x1.toInt < h0_length.toInt := z_lt rfl rfl c_90
              refine lv_aload_n hx hb dX7_step_84 rfl (lv_at hl 0 rfl) ?_
              refine va_get (D := (dC, dI)) (ci := 7) (v := .ref h0_text) (C := RX7) (T := TX7) (N := 8) hx hb hts hi7 hown hK hP 0 rfl rfl 0 (by decide) hk4 (fun _ h9 => h9) rfl dX7_step_85 ?_
              refine lv_aload_n hx hb dX7_step_88 rfl (lv_at hl 0 rfl) ?_
              refine va_get (D := (dC, dI)) (ci := 7) (v := .int x1) (C := RX7) (T := TX7) (N := 8) hx hb hts hi7 hown hK hP 0 rfl rfl 4 (by decide) hk0 (fun _ h9 => h9) rfl dX7_step_89 ?_
              refine va_bald hx hb hK hP 1 0 rfl rfl (z_in rfl (by omega) (by omega)) dX7_step_92 ?_
              refine y_fini (w' := fun (u92 : Unit) => [(h0, .inr (7, [.ref h0_text, .int h0_length, .int h0_fault, .int h0_place, .int x1, .int h0_kind, .int x1, .int 0])), (h0_text, .inl (cB, 600, .inl h0_text_f))]) (va_runS (As := [.int (h0_text_f x1.toNatClampNeg)]) (rest := []) ⟨hx, hb, hml, hown, hts⟩ (k_X7_isLetter l dC dI cB cI cJ cZ cP cQ H.size (h0_text_f x1.toNatClampNeg)) (va_cwS 1 hts gX7_step_X7_isLetter rfl rfl rfl hd_X7_isLetter ⟨Nat.le_of_ble_eq_true rfl, Nat.le_of_ble_eq_true rfl⟩) (z_pS hK hP hD zX_nil [] (by decide) rfl) rfl rfl hl.1 rfl (lv_room (Nat.le_of_ble_eq_true rfl)) dX7_step_93 ⟨Nat.le_of_ble_eq_true rfl, Nat.le_of_ble_eq_true rfl⟩) hP hD hS hA [] [0, 1] [0, 1] rfl rfl (by decide) (by decide) (fun _ => rfl) (by decide) (fun r93 u92 H locs hp94 hP hD hS => ?_)
              have hP : va_P (dC, dI) vwCl [(h0, .inr (7, [.ref h0_text, .int h0_length, .int h0_fault, .int h0_place, .int x1, .int h0_kind, .int x1, .int 0])), (h0_text, .inl (cB, 600, .inl h0_text_f))] H := hP
              have hD : va_D A [(h0, .inr (7, [.ref h0_text, .int h0_length, .int h0_fault, .int h0_place, .int x1, .int h0_kind, .int x1, .int 0])), (h0_text, .inl (cB, 600, .inl h0_text_f))] := hD
              have hp94 : (r93 = 0 ∧ (((h0_text_f x1.toNatClampNeg).toInt) < 97 ∨ (97 ≤ ((h0_text_f x1.toNatClampNeg).toInt) ∧ 122 < ((h0_text_f x1.toNatClampNeg).toInt)))) ∨ (r93 = 1 ∧ 97 ≤ ((h0_text_f x1.toNatClampNeg).toInt) ∧ ((h0_text_f x1.toNatClampNeg).toInt) ≤ 122) := hp94
              rcases hp94 with f95 | f96
              · obtain ⟨rfl, f95⟩ := f95
                refine lv_if_eq (tgt := 143) hx hb dX7_step_96 (by decide) (fun _ => ?_) (fun c => absurd (by decide) c)
                refine lv_aload_n hx hb dX7_step_143 rfl (lv_at hl 0 rfl) ?_
                refine va_get (D := (dC, dI)) (ci := 7) (v := .ref h0_text) (C := RX7) (T := TX7) (N := 8) hx hb hts hi7 hown hK hP 0 rfl rfl 0 (by decide) hk4 (fun _ h9 => h9) rfl dX7_step_144 ?_
                refine lv_aload_n hx hb dX7_step_147 rfl (lv_at hl 0 rfl) ?_
                refine va_get (D := (dC, dI)) (ci := 7) (v := .int x1) (C := RX7) (T := TX7) (N := 8) hx hb hts hi7 hown hK hP 0 rfl rfl 4 (by decide) hk0 (fun _ h9 => h9) rfl dX7_step_148 ?_
                refine va_bald hx hb hK hP 1 0 rfl rfl (z_in rfl (by omega) (by omega)) dX7_step_151 ?_
                refine y_fini (w' := fun (u97 : Unit) => [(h0, .inr (7, [.ref h0_text, .int h0_length, .int h0_fault, .int h0_place, .int x1, .int h0_kind, .int x1, .int 0])), (h0_text, .inl (cB, 600, .inl h0_text_f))]) (va_runS (As := [.int (h0_text_f x1.toNatClampNeg)]) (rest := []) ⟨hx, hb, hml, hown, hts⟩ (k_X7_isDigit l dC dI cB cI cJ cZ cP cQ H.size (h0_text_f x1.toNatClampNeg)) (va_cwS 1 hts gX7_step_X7_isDigit rfl rfl rfl hd_X7_isDigit ⟨Nat.le_of_ble_eq_true rfl, Nat.le_of_ble_eq_true rfl⟩) (z_pS hK hP hD zX_nil [] (by decide) rfl) rfl rfl hl.1 rfl (lv_room (Nat.le_of_ble_eq_true rfl)) dX7_step_152 ⟨Nat.le_of_ble_eq_true rfl, Nat.le_of_ble_eq_true rfl⟩) hP hD hS hA [] [0, 1] [0, 1] rfl rfl (by decide) (by decide) (fun _ => rfl) (by decide) (fun r98 u97 H locs hp99 hP hD hS => ?_)
                have hP : va_P (dC, dI) vwCl [(h0, .inr (7, [.ref h0_text, .int h0_length, .int h0_fault, .int h0_place, .int x1, .int h0_kind, .int x1, .int 0])), (h0_text, .inl (cB, 600, .inl h0_text_f))] H := hP
                have hD : va_D A [(h0, .inr (7, [.ref h0_text, .int h0_length, .int h0_fault, .int h0_place, .int x1, .int h0_kind, .int x1, .int 0])), (h0_text, .inl (cB, 600, .inl h0_text_f))] := hD
                have hp99 : (r98 = 0 ∧ (((h0_text_f x1.toNatClampNeg).toInt) < 48 ∨ (48 ≤ ((h0_text_f x1.toNatClampNeg).toInt) ∧ 57 < ((h0_text_f x1.toNatClampNeg).toInt)))) ∨ (r98 = 1 ∧ 48 ≤ ((h0_text_f x1.toNatClampNeg).toInt) ∧ ((h0_text_f x1.toNatClampNeg).toInt) ≤ 57) := hp99
                rcases hp99 with f100 | f101
                · obtain ⟨rfl, f100⟩ := f100
                  refine lv_if_eq (tgt := 231) hx hb dX7_step_155 (by decide) (fun _ => ?_) (fun c => absurd (by decide) c)
                  refine lv_aload_n hx hb dX7_step_231 rfl (lv_at hl 0 rfl) ?_
                  refine lv_aload_n hx hb dX7_step_232 rfl (lv_at hl 0 rfl) ?_
                  refine va_get (D := (dC, dI)) (ci := 7) (v := .ref h0_text) (C := RX7) (T := TX7) (N := 8) hx hb hts hi7 hown hK hP 0 rfl rfl 0 (by decide) hk4 (fun _ h9 => h9) rfl dX7_step_233 ?_
                  refine lv_aload_n hx hb dX7_step_236 rfl (lv_at hl 0 rfl) ?_
                  refine va_get (D := (dC, dI)) (ci := 7) (v := .int x1) (C := RX7) (T := TX7) (N := 8) hx hb hts hi7 hown hK hP 0 rfl rfl 4 (by decide) hk0 (fun _ h9 => h9) rfl dX7_step_237 ?_
                  refine va_bald hx hb hK hP 1 0 rfl rfl (z_in rfl (by omega) (by omega)) dX7_step_240 ?_
                  refine lv_bipush (v := 59) hx hb dX7_step_241 (by decide) ?_
                  refine lv_icmp_ne (tgt := 250) hx hb dX7_step_243 (by decide) (fun c_102 => ?_) (fun c_102 => ?_)
                  · have f103 : ¬ (h0_text_f x1.toNatClampNeg).toInt = 59 := z_ne rfl (show Int32.toInt 59 = 59 from by decide) c_102
                    refine lv_iconst (v := 4) hx hb dX7_step_250 (by decide) ?_
                    refine va_put (D := (dC, dI)) (ci := 7) (v := .int 4) (ty := .int) (C := RX7) (T := TX7) (N := 8) hx hb hts hi7 tyX7 tyX7_ok nmX7 hown hK hP hD hS 0 rfl rfl 5 (by decide) hk5 (fun _ h9 => h9) rfl (by decide +kernel) rfl rfl (Nat.le_of_ble_eq_true rfl) dX7_step_251 (fun H locs hP hD hS => ?_)
                    have hP : va_P (dC, dI) vwCl [(h0, .inr (7, [.ref h0_text, .int h0_length, .int h0_fault, .int h0_place, .int x1, .int 4, .int x1, .int 0])), (h0_text, .inl (cB, 600, .inl h0_text_f))] H := hP
                    have hD : va_D A [(h0, .inr (7, [.ref h0_text, .int h0_length, .int h0_fault, .int h0_place, .int x1, .int 4, .int x1, .int 0])), (h0_text, .inl (cB, 600, .inl h0_text_f))] := hD
                    refine lv_aload_n hx hb dX7_step_254 rfl (lv_at hl 0 rfl) ?_
                    refine lv_dup hx hb dX7_step_255 rfl ?_
                    refine va_get (D := (dC, dI)) (ci := 7) (v := .int x1) (C := RX7) (T := TX7) (N := 8) hx hb hts hi7 hown hK hP 0 rfl rfl 4 (by decide) hk0 (fun _ h9 => h9) rfl dX7_step_256 ?_
                    refine lv_iconst (v := 1) hx hb dX7_step_259 (by decide) ?_
                    refine lv_iadd hx hb dX7_step_260 ?_
                    refine lv_topi (fun r104 h105 => ?_)
                    have f106 : r104.toInt = x1.toInt + 1 := z_iadd h105 rfl (show Int32.toInt 1 = 1 from by decide) (by omega) (by omega)
                    refine va_put (D := (dC, dI)) (ci := 7) (v := .int r104) (ty := .int) (C := RX7) (T := TX7) (N := 8) hx hb hts hi7 tyX7 tyX7_ok nmX7 hown hK hP hD hS 0 rfl rfl 4 (by decide) hk0 (fun _ h9 => h9) rfl (by decide +kernel) rfl rfl (Nat.le_of_ble_eq_true rfl) dX7_step_261 (fun H locs hP hD hS => ?_)
                    have hP : va_P (dC, dI) vwCl [(h0, .inr (7, [.ref h0_text, .int h0_length, .int h0_fault, .int h0_place, .int r104, .int 4, .int x1, .int 0])), (h0_text, .inl (cB, 600, .inl h0_text_f))] H := hP
                    have hD : va_D A [(h0, .inr (7, [.ref h0_text, .int h0_length, .int h0_fault, .int h0_place, .int r104, .int 4, .int x1, .int 0])), (h0_text, .inl (cB, 600, .inl h0_text_f))] := hD
                    exact y_vret ((r104, 4, x1, 0) : Int32 × Int32 × Int32 × Int32) hx hb hr hlocks hK hP hD hS hAe hQ rfl ⟨(show 0 ≤ h0_length.toInt from by omega), (show h0_length.toInt ≤ 600 from by omega), (show 0 ≤ r104.toInt from by omega), (show r104.toInt ≤ 600 from by omega), (show 0 ≤ x1.toInt from by omega), (show x1.toInt ≤ 600 from by omega)⟩ dX7_step_264
                  · have f103 : (h0_text_f x1.toNatClampNeg).toInt = 59 := z_eq rfl (show Int32.toInt 59 = 59 from by decide) c_102
                    refine lv_iconst (v := 3) hx hb dX7_step_246 (by decide) ?_
                    refine lv_goto (tgt := 251) hx hb dX7_step_247 (by decide) ?_
                    refine va_put (D := (dC, dI)) (ci := 7) (v := .int 3) (ty := .int) (C := RX7) (T := TX7) (N := 8) hx hb hts hi7 tyX7 tyX7_ok nmX7 hown hK hP hD hS 0 rfl rfl 5 (by decide) hk5 (fun _ h9 => h9) rfl (by decide +kernel) rfl rfl (Nat.le_of_ble_eq_true rfl) dX7_step_251 (fun H locs hP hD hS => ?_)
                    have hP : va_P (dC, dI) vwCl [(h0, .inr (7, [.ref h0_text, .int h0_length, .int h0_fault, .int h0_place, .int x1, .int 3, .int x1, .int 0])), (h0_text, .inl (cB, 600, .inl h0_text_f))] H := hP
                    have hD : va_D A [(h0, .inr (7, [.ref h0_text, .int h0_length, .int h0_fault, .int h0_place, .int x1, .int 3, .int x1, .int 0])), (h0_text, .inl (cB, 600, .inl h0_text_f))] := hD
                    refine lv_aload_n hx hb dX7_step_254 rfl (lv_at hl 0 rfl) ?_
                    refine lv_dup hx hb dX7_step_255 rfl ?_
                    refine va_get (D := (dC, dI)) (ci := 7) (v := .int x1) (C := RX7) (T := TX7) (N := 8) hx hb hts hi7 hown hK hP 0 rfl rfl 4 (by decide) hk0 (fun _ h9 => h9) rfl dX7_step_256 ?_
                    refine lv_iconst (v := 1) hx hb dX7_step_259 (by decide) ?_
                    refine lv_iadd hx hb dX7_step_260 ?_
                    refine lv_topi (fun r107 h108 => ?_)
                    have f109 : r107.toInt = x1.toInt + 1 := z_iadd h108 rfl (show Int32.toInt 1 = 1 from by decide) (by omega) (by omega)
                    refine va_put (D := (dC, dI)) (ci := 7) (v := .int r107) (ty := .int) (C := RX7) (T := TX7) (N := 8) hx hb hts hi7 tyX7 tyX7_ok nmX7 hown hK hP hD hS 0 rfl rfl 4 (by decide) hk0 (fun _ h9 => h9) rfl (by decide +kernel) rfl rfl (Nat.le_of_ble_eq_true rfl) dX7_step_261 (fun H locs hP hD hS => ?_)
                    have hP : va_P (dC, dI) vwCl [(h0, .inr (7, [.ref h0_text, .int h0_length, .int h0_fault, .int h0_place, .int r107, .int 3, .int x1, .int 0])), (h0_text, .inl (cB, 600, .inl h0_text_f))] H := hP
                    have hD : va_D A [(h0, .inr (7, [.ref h0_text, .int h0_length, .int h0_fault, .int h0_place, .int r107, .int 3, .int x1, .int 0])), (h0_text, .inl (cB, 600, .inl h0_text_f))] := hD
                    exact y_vret ((r107, 3, x1, 0) : Int32 × Int32 × Int32 × Int32) hx hb hr hlocks hK hP hD hS hAe hQ rfl ⟨(show 0 ≤ h0_length.toInt from by omega), (show h0_length.toInt ≤ 600 from by omega), (show 0 ≤ r107.toInt from by omega), (show r107.toInt ≤ 600 from by omega), (show 0 ≤ x1.toInt from by omega), (show x1.toInt ≤ 600 from by omega)⟩ dX7_step_264
                · obtain ⟨rfl, f101⟩ := f101
                  refine lv_if_eq (tgt := 231) hx hb dX7_step_155 (by decide) (fun c => absurd c (by decide)) (fun _ => ?_)
                  refine lv_aload_n hx hb dX7_step_158 rfl (lv_at hl 0 rfl) ?_
                  refine lv_iconst (v := 2) hx hb dX7_step_159 (by decide) ?_
                  refine va_put (D := (dC, dI)) (ci := 7) (v := .int 2) (ty := .int) (C := RX7) (T := TX7) (N := 8) hx hb hts hi7 tyX7 tyX7_ok nmX7 hown hK hP hD hS 0 rfl rfl 5 (by decide) hk5 (fun _ h9 => h9) rfl (by decide +kernel) rfl rfl (Nat.le_of_ble_eq_true rfl) dX7_step_160 (fun H locs hP hD hS => ?_)
                  have hP : va_P (dC, dI) vwCl [(h0, .inr (7, [.ref h0_text, .int h0_length, .int h0_fault, .int h0_place, .int x1, .int 2, .int x1, .int 0])), (h0_text, .inl (cB, 600, .inl h0_text_f))] H := hP
                  have hD : va_D A [(h0, .inr (7, [.ref h0_text, .int h0_length, .int h0_fault, .int h0_place, .int x1, .int 2, .int x1, .int 0])), (h0_text, .inl (cB, 600, .inl h0_text_f))] := hD
                  have hlp112 : ∀ (n113 : Nat) (x110 : Int32) (x111 : Int32), 601 - x110.toInt < (n113 : Int) → 0 ≤ h0_length.toInt → h0_length.toInt ≤ 600 → 0 ≤ x110.toInt → x110.toInt ≤ 600 → 0 ≤ x1.toInt → x1.toInt ≤ 600 → ∀ (H : Heap) (locs : List Loc), va_P (dC, dI) vwCl [(h0, .inr (7, [.ref h0_text, .int h0_length, .int h0_fault, .int h0_place, .int x110, .int 2, .int x1, .int x111])), (h0_text, .inl (cB, 600, .inl h0_text_f))] H → va_D A [(h0, .inr (7, [.ref h0_text, .int h0_length, .int h0_fault, .int h0_place, .int x110, .int 2, .int x1, .int x111])), (h0_text, .inl (cB, 600, .inl h0_text_f))] → va_S A s.heap H locs → ∀ (ls : Array Slot), lv_has ls 1 [(0, .ref h0)] → W p l e ({ frames := 1, cells := 0, slots := 0, locals := 40 } : Room) s m ([.ref h0] : List Value).toArray below meth c H locs 0 0 Q (F0 m 163 ls []) := by
                    intro n113
                    induction n113 with
                    | zero =>
                      intro x110 x111 hm120 k114 k115 k116 k117 k118 k119
                      exact absurd hm120 (by omega)
                    | succ n113 ih121 =>
                      intro x110 x111 hm120 k114 k115 k116 k117 k118 k119 H locs hP hD hS ls hl
                      refine lv_aload_n hx hb dX7_step_163 rfl (lv_at hl 0 rfl) ?_
                      refine va_get (D := (dC, dI)) (ci := 7) (v := .int x110) (C := RX7) (T := TX7) (N := 8) hx hb hts hi7 hown hK hP 0 rfl rfl 4 (by decide) hk0 (fun _ h9 => h9) rfl dX7_step_164 ?_
                      refine lv_aload_n hx hb dX7_step_167 rfl (lv_at hl 0 rfl) ?_
                      refine va_get (D := (dC, dI)) (ci := 7) (v := .int h0_length) (C := RX7) (T := TX7) (N := 8) hx hb hts hi7 hown hK hP 0 rfl rfl 1 (by decide) hk1 (fun _ h9 => h9) rfl dX7_step_168 ?_
                      refine lv_icmp_ge (tgt := 264) hx hb dX7_step_171 (by decide) (fun c_122 => ?_) (fun c_122 => ?_)
                      · have f123 : h0_length.toInt ≤ x110.toInt := z_le rfl rfl c_122
                        exact y_vret ((x110, 2, x1, x111) : Int32 × Int32 × Int32 × Int32) hx hb hr hlocks hK hP hD hS hAe hQ rfl ⟨(show 0 ≤ h0_length.toInt from by omega), (show h0_length.toInt ≤ 600 from by omega), (show 0 ≤ x110.toInt from by omega), (show x110.toInt ≤ 600 from by omega), (show 0 ≤ x1.toInt from by omega), (show x1.toInt ≤ 600 from by omega)⟩ dX7_step_264
                      · have f123 : x110.toInt < h0_length.toInt := z_nle rfl rfl c_122
                        refine lv_aload_n hx hb dX7_step_174 rfl (lv_at hl 0 rfl) ?_
                        refine va_get (D := (dC, dI)) (ci := 7) (v := .ref h0_text) (C := RX7) (T := TX7) (N := 8) hx hb hts hi7 hown hK hP 0 rfl rfl 0 (by decide) hk4 (fun _ h9 => h9) rfl dX7_step_175 ?_
                        refine lv_aload_n hx hb dX7_step_178 rfl (lv_at hl 0 rfl) ?_
                        refine va_get (D := (dC, dI)) (ci := 7) (v := .int x110) (C := RX7) (T := TX7) (N := 8) hx hb hts hi7 hown hK hP 0 rfl rfl 4 (by decide) hk0 (fun _ h9 => h9) rfl dX7_step_179 ?_
                        refine va_bald hx hb hK hP 1 0 rfl rfl (z_in rfl (by omega) (by omega)) dX7_step_182 ?_
                        refine y_fini (w' := fun (u124 : Unit) => [(h0, .inr (7, [.ref h0_text, .int h0_length, .int h0_fault, .int h0_place, .int x110, .int 2, .int x1, .int x111])), (h0_text, .inl (cB, 600, .inl h0_text_f))]) (va_runS (As := [.int (h0_text_f x110.toNatClampNeg)]) (rest := []) ⟨hx, hb, hml, hown, hts⟩ (k_X7_isDigit l dC dI cB cI cJ cZ cP cQ H.size (h0_text_f x110.toNatClampNeg)) (va_cwS 1 hts gX7_step_X7_isDigit rfl rfl rfl hd_X7_isDigit ⟨Nat.le_of_ble_eq_true rfl, Nat.le_of_ble_eq_true rfl⟩) (z_pS hK hP hD zX_nil [] (by decide) rfl) rfl rfl hl.1 rfl (lv_room (Nat.le_of_ble_eq_true rfl)) dX7_step_183 ⟨Nat.le_of_ble_eq_true rfl, Nat.le_of_ble_eq_true rfl⟩) hP hD hS hA [] [0, 1] [0, 1] rfl rfl (by decide) (by decide) (fun _ => rfl) (by decide) (fun r125 u124 H locs hp126 hP hD hS => ?_)
                        have hP : va_P (dC, dI) vwCl [(h0, .inr (7, [.ref h0_text, .int h0_length, .int h0_fault, .int h0_place, .int x110, .int 2, .int x1, .int x111])), (h0_text, .inl (cB, 600, .inl h0_text_f))] H := hP
                        have hD : va_D A [(h0, .inr (7, [.ref h0_text, .int h0_length, .int h0_fault, .int h0_place, .int x110, .int 2, .int x1, .int x111])), (h0_text, .inl (cB, 600, .inl h0_text_f))] := hD
                        have hp126 : (r125 = 0 ∧ (((h0_text_f x110.toNatClampNeg).toInt) < 48 ∨ (48 ≤ ((h0_text_f x110.toNatClampNeg).toInt) ∧ 57 < ((h0_text_f x110.toNatClampNeg).toInt)))) ∨ (r125 = 1 ∧ 48 ≤ ((h0_text_f x110.toNatClampNeg).toInt) ∧ ((h0_text_f x110.toNatClampNeg).toInt) ≤ 57) := hp126
                        rcases hp126 with f127 | f128
                        · obtain ⟨rfl, f127⟩ := f127
                          refine lv_if_eq (tgt := 264) hx hb dX7_step_186 (by decide) (fun _ => ?_) (fun c => absurd (by decide) c)
                          exact y_vret ((x110, 2, x1, x111) : Int32 × Int32 × Int32 × Int32) hx hb hr hlocks hK hP hD hS hAe hQ rfl ⟨(show 0 ≤ h0_length.toInt from by omega), (show h0_length.toInt ≤ 600 from by omega), (show 0 ≤ x110.toInt from by omega), (show x110.toInt ≤ 600 from by omega), (show 0 ≤ x1.toInt from by omega), (show x1.toInt ≤ 600 from by omega)⟩ dX7_step_264
                        · obtain ⟨rfl, f128⟩ := f128
                          refine lv_if_eq (tgt := 264) hx hb dX7_step_186 (by decide) (fun c => absurd c (by decide)) (fun _ => ?_)
                          refine lv_aload_n hx hb dX7_step_189 rfl (lv_at hl 0 rfl) ?_
                          refine lv_ldc hx hb hown hk6 dX7_step_190 ?_
                          refine lv_bipush (v := 10) hx hb dX7_step_192 (by decide) ?_
                          refine lv_aload_n hx hb dX7_step_194 rfl (lv_at hl 0 rfl) ?_
                          refine va_get (D := (dC, dI)) (ci := 7) (v := .int x111) (C := RX7) (T := TX7) (N := 8) hx hb hts hi7 hown hK hP 0 rfl rfl 7 (by decide) hk3 (fun _ h9 => h9) rfl dX7_step_195 ?_
                          refine lv_imul hx hb dX7_step_198 ?_
                          refine lv_topi (fun r129 _ => ?_)
                          refine lv_aload_n hx hb dX7_step_199 rfl (lv_at hl 0 rfl) ?_
                          refine va_get (D := (dC, dI)) (ci := 7) (v := .ref h0_text) (C := RX7) (T := TX7) (N := 8) hx hb hts hi7 hown hK hP 0 rfl rfl 0 (by decide) hk4 (fun _ h9 => h9) rfl dX7_step_200 ?_
                          refine lv_aload_n hx hb dX7_step_203 rfl (lv_at hl 0 rfl) ?_
                          refine va_get (D := (dC, dI)) (ci := 7) (v := .int x110) (C := RX7) (T := TX7) (N := 8) hx hb hts hi7 hown hK hP 0 rfl rfl 4 (by decide) hk0 (fun _ h9 => h9) rfl dX7_step_204 ?_
                          refine va_bald hx hb hK hP 1 0 rfl rfl (z_in rfl (by omega) (by omega)) dX7_step_207 ?_
                          refine lv_iadd hx hb dX7_step_208 ?_
                          refine lv_topi (fun r130 _ => ?_)
                          refine lv_bipush (v := 48) hx hb dX7_step_209 (by decide) ?_
                          refine lv_isub hx hb dX7_step_211 ?_
                          refine lv_topi (fun r131 _ => ?_)
                          refine va_mmin hx hb (by rw [hml]; exact hl.1.symm) hown hk7 hk8 hk9 hk10 (Nat.le_of_ble_eq_true rfl) (Nat.le_of_ble_eq_true rfl) (Nat.le_of_ble_eq_true rfl) (Nat.le_of_ble_eq_true rfl) dX7_step_212 ?_
                          refine lv_topi (fun r132 h133 => ?_)
                          have f134 : r132.toInt ≤ 100000 ∧ r132.toInt ≤ r131.toInt ∧ (r132.toInt = 100000 ∨ r132.toInt = r131.toInt) := z_mmini h133 (show Int32.toInt 100000 = 100000 from by decide) rfl
                          refine va_put (D := (dC, dI)) (ci := 7) (v := .int r132) (ty := .int) (C := RX7) (T := TX7) (N := 8) hx hb hts hi7 tyX7 tyX7_ok nmX7 hown hK hP hD hS 0 rfl rfl 7 (by decide) hk3 (fun _ h9 => h9) rfl (by decide +kernel) rfl rfl (Nat.le_of_ble_eq_true rfl) dX7_step_215 (fun H locs hP hD hS => ?_)
                          have hP : va_P (dC, dI) vwCl [(h0, .inr (7, [.ref h0_text, .int h0_length, .int h0_fault, .int h0_place, .int x110, .int 2, .int x1, .int r132])), (h0_text, .inl (cB, 600, .inl h0_text_f))] H := hP
                          have hD : va_D A [(h0, .inr (7, [.ref h0_text, .int h0_length, .int h0_fault, .int h0_place, .int x110, .int 2, .int x1, .int r132])), (h0_text, .inl (cB, 600, .inl h0_text_f))] := hD
                          refine lv_aload_n hx hb dX7_step_218 rfl (lv_at hl 0 rfl) ?_
                          refine lv_dup hx hb dX7_step_219 rfl ?_
                          refine va_get (D := (dC, dI)) (ci := 7) (v := .int x110) (C := RX7) (T := TX7) (N := 8) hx hb hts hi7 hown hK hP 0 rfl rfl 4 (by decide) hk0 (fun _ h9 => h9) rfl dX7_step_220 ?_
                          refine lv_iconst (v := 1) hx hb dX7_step_223 (by decide) ?_
                          refine lv_iadd hx hb dX7_step_224 ?_
                          refine lv_topi (fun r135 h136 => ?_)
                          have f137 : r135.toInt = x110.toInt + 1 := z_iadd h136 rfl (show Int32.toInt 1 = 1 from by decide) (by omega) (by omega)
                          refine va_put (D := (dC, dI)) (ci := 7) (v := .int r135) (ty := .int) (C := RX7) (T := TX7) (N := 8) hx hb hts hi7 tyX7 tyX7_ok nmX7 hown hK hP hD hS 0 rfl rfl 4 (by decide) hk0 (fun _ h9 => h9) rfl (by decide +kernel) rfl rfl (Nat.le_of_ble_eq_true rfl) dX7_step_225 (fun H locs hP hD hS => ?_)
                          have hP : va_P (dC, dI) vwCl [(h0, .inr (7, [.ref h0_text, .int h0_length, .int h0_fault, .int h0_place, .int r135, .int 2, .int x1, .int r132])), (h0_text, .inl (cB, 600, .inl h0_text_f))] H := hP
                          have hD : va_D A [(h0, .inr (7, [.ref h0_text, .int h0_length, .int h0_fault, .int h0_place, .int r135, .int 2, .int x1, .int r132])), (h0_text, .inl (cB, 600, .inl h0_text_f))] := hD
                          refine lv_goto (tgt := 163) hx hb dX7_step_228 (by decide) ?_
                          exact ih121 r135 r132 (show 601 - r135.toInt < (n113 : Int) from by omega) (show 0 ≤ h0_length.toInt from by omega) (show h0_length.toInt ≤ 600 from by omega) (show 0 ≤ r135.toInt from by omega) (show r135.toInt ≤ 600 from by omega) (show 0 ≤ x1.toInt from by omega) (show x1.toInt ≤ 600 from by omega) _ _ hP hD hS ls (lv_sub hl [0] rfl)
                  exact hlp112 (601 - x1.toInt + 1).toNat x1 0 (show 601 - x1.toInt < ((601 - x1.toInt + 1).toNat : Int) from by omega) (show 0 ≤ h0_length.toInt from by omega) (show h0_length.toInt ≤ 600 from by omega) (show 0 ≤ x1.toInt from by omega) (show x1.toInt ≤ 600 from by omega) (show 0 ≤ x1.toInt from by omega) (show x1.toInt ≤ 600 from by omega) _ _ hP hD hS ls (lv_sub hl [0] rfl)
              · obtain ⟨rfl, f96⟩ := f96
                refine lv_if_eq (tgt := 143) hx hb dX7_step_96 (by decide) (fun c => absurd c (by decide)) (fun _ => ?_)
                refine lv_aload_n hx hb dX7_step_99 rfl (lv_at hl 0 rfl) ?_
                refine lv_iconst (v := 1) hx hb dX7_step_100 (by decide) ?_
                refine va_put (D := (dC, dI)) (ci := 7) (v := .int 1) (ty := .int) (C := RX7) (T := TX7) (N := 8) hx hb hts hi7 tyX7 tyX7_ok nmX7 hown hK hP hD hS 0 rfl rfl 5 (by decide) hk5 (fun _ h9 => h9) rfl (by decide +kernel) rfl rfl (Nat.le_of_ble_eq_true rfl) dX7_step_101 (fun H locs hP hD hS => ?_)
                have hP : va_P (dC, dI) vwCl [(h0, .inr (7, [.ref h0_text, .int h0_length, .int h0_fault, .int h0_place, .int x1, .int 1, .int x1, .int 0])), (h0_text, .inl (cB, 600, .inl h0_text_f))] H := hP
                have hD : va_D A [(h0, .inr (7, [.ref h0_text, .int h0_length, .int h0_fault, .int h0_place, .int x1, .int 1, .int x1, .int 0])), (h0_text, .inl (cB, 600, .inl h0_text_f))] := hD
                have hlp139 : ∀ (n140 : Nat) (x138 : Int32), 601 - x138.toInt < (n140 : Int) → 0 ≤ h0_length.toInt → h0_length.toInt ≤ 600 → 0 ≤ x138.toInt → x138.toInt ≤ 600 → 0 ≤ x1.toInt → x1.toInt ≤ 600 → ∀ (H : Heap) (locs : List Loc), va_P (dC, dI) vwCl [(h0, .inr (7, [.ref h0_text, .int h0_length, .int h0_fault, .int h0_place, .int x138, .int 1, .int x1, .int 0])), (h0_text, .inl (cB, 600, .inl h0_text_f))] H → va_D A [(h0, .inr (7, [.ref h0_text, .int h0_length, .int h0_fault, .int h0_place, .int x138, .int 1, .int x1, .int 0])), (h0_text, .inl (cB, 600, .inl h0_text_f))] → va_S A s.heap H locs → ∀ (ls : Array Slot), lv_has ls 1 [(0, .ref h0)] → W p l e ({ frames := 1, cells := 0, slots := 0, locals := 40 } : Room) s m ([.ref h0] : List Value).toArray below meth c H locs 0 0 Q (F0 m 104 ls []) := by
                  intro n140
                  induction n140 with
                  | zero =>
                    intro x138 hm147 k141 k142 k143 k144 k145 k146
                    exact absurd hm147 (by omega)
                  | succ n140 ih148 =>
                    intro x138 hm147 k141 k142 k143 k144 k145 k146 H locs hP hD hS ls hl
                    refine lv_aload_n hx hb dX7_step_104 rfl (lv_at hl 0 rfl) ?_
                    refine va_get (D := (dC, dI)) (ci := 7) (v := .int x138) (C := RX7) (T := TX7) (N := 8) hx hb hts hi7 hown hK hP 0 rfl rfl 4 (by decide) hk0 (fun _ h9 => h9) rfl dX7_step_105 ?_
                    refine lv_aload_n hx hb dX7_step_108 rfl (lv_at hl 0 rfl) ?_
                    refine va_get (D := (dC, dI)) (ci := 7) (v := .int h0_length) (C := RX7) (T := TX7) (N := 8) hx hb hts hi7 hown hK hP 0 rfl rfl 1 (by decide) hk1 (fun _ h9 => h9) rfl dX7_step_109 ?_
                    refine lv_icmp_ge (tgt := 264) hx hb dX7_step_112 (by decide) (fun c_149 => ?_) (fun c_149 => ?_)
                    · have f150 : h0_length.toInt ≤ x138.toInt := z_le rfl rfl c_149
                      exact y_vret ((x138, 1, x1, 0) : Int32 × Int32 × Int32 × Int32) hx hb hr hlocks hK hP hD hS hAe hQ rfl ⟨(show 0 ≤ h0_length.toInt from by omega), (show h0_length.toInt ≤ 600 from by omega), (show 0 ≤ x138.toInt from by omega), (show x138.toInt ≤ 600 from by omega), (show 0 ≤ x1.toInt from by omega), (show x1.toInt ≤ 600 from by omega)⟩ dX7_step_264
                    · have f150 : x138.toInt < h0_length.toInt := z_nle rfl rfl c_149
                      refine lv_aload_n hx hb dX7_step_115 rfl (lv_at hl 0 rfl) ?_
                      refine va_get (D := (dC, dI)) (ci := 7) (v := .ref h0_text) (C := RX7) (T := TX7) (N := 8) hx hb hts hi7 hown hK hP 0 rfl rfl 0 (by decide) hk4 (fun _ h9 => h9) rfl dX7_step_116 ?_
                      refine lv_aload_n hx hb dX7_step_119 rfl (lv_at hl 0 rfl) ?_
                      refine va_get (D := (dC, dI)) (ci := 7) (v := .int x138) (C := RX7) (T := TX7) (N := 8) hx hb hts hi7 hown hK hP 0 rfl rfl 4 (by decide) hk0 (fun _ h9 => h9) rfl dX7_step_120 ?_
                      refine va_bald hx hb hK hP 1 0 rfl rfl (z_in rfl (by omega) (by omega)) dX7_step_123 ?_
                      refine y_fini (w' := fun (u151 : Unit) => [(h0, .inr (7, [.ref h0_text, .int h0_length, .int h0_fault, .int h0_place, .int x138, .int 1, .int x1, .int 0])), (h0_text, .inl (cB, 600, .inl h0_text_f))]) (va_runS (As := [.int (h0_text_f x138.toNatClampNeg)]) (rest := []) ⟨hx, hb, hml, hown, hts⟩ (k_X7_isLetter l dC dI cB cI cJ cZ cP cQ H.size (h0_text_f x138.toNatClampNeg)) (va_cwS 1 hts gX7_step_X7_isLetter rfl rfl rfl hd_X7_isLetter ⟨Nat.le_of_ble_eq_true rfl, Nat.le_of_ble_eq_true rfl⟩) (z_pS hK hP hD zX_nil [] (by decide) rfl) rfl rfl hl.1 rfl (lv_room (Nat.le_of_ble_eq_true rfl)) dX7_step_124 ⟨Nat.le_of_ble_eq_true rfl, Nat.le_of_ble_eq_true rfl⟩) hP hD hS hA [] [0, 1] [0, 1] rfl rfl (by decide) (by decide) (fun _ => rfl) (by decide) (fun r152 u151 H locs hp153 hP hD hS => ?_)
                      have hP : va_P (dC, dI) vwCl [(h0, .inr (7, [.ref h0_text, .int h0_length, .int h0_fault, .int h0_place, .int x138, .int 1, .int x1, .int 0])), (h0_text, .inl (cB, 600, .inl h0_text_f))] H := hP
                      have hD : va_D A [(h0, .inr (7, [.ref h0_text, .int h0_length, .int h0_fault, .int h0_place, .int x138, .int 1, .int x1, .int 0])), (h0_text, .inl (cB, 600, .inl h0_text_f))] := hD
                      have hp153 : (r152 = 0 ∧ (((h0_text_f x138.toNatClampNeg).toInt) < 97 ∨ (97 ≤ ((h0_text_f x138.toNatClampNeg).toInt) ∧ 122 < ((h0_text_f x138.toNatClampNeg).toInt)))) ∨ (r152 = 1 ∧ 97 ≤ ((h0_text_f x138.toNatClampNeg).toInt) ∧ ((h0_text_f x138.toNatClampNeg).toInt) ≤ 122) := hp153
                      rcases hp153 with f154 | f155
                      · obtain ⟨rfl, f154⟩ := f154
                        refine lv_if_eq (tgt := 264) hx hb dX7_step_127 (by decide) (fun _ => ?_) (fun c => absurd (by decide) c)
                        exact y_vret ((x138, 1, x1, 0) : Int32 × Int32 × Int32 × Int32) hx hb hr hlocks hK hP hD hS hAe hQ rfl ⟨(show 0 ≤ h0_length.toInt from by omega), (show h0_length.toInt ≤ 600 from by omega), (show 0 ≤ x138.toInt from by omega), (show x138.toInt ≤ 600 from by omega), (show 0 ≤ x1.toInt from by omega), (show x1.toInt ≤ 600 from by omega)⟩ dX7_step_264
                      · obtain ⟨rfl, f155⟩ := f155
                        refine lv_if_eq (tgt := 264) hx hb dX7_step_127 (by decide) (fun c => absurd c (by decide)) (fun _ => ?_)
                        refine lv_aload_n hx hb dX7_step_130 rfl (lv_at hl 0 rfl) ?_
                        refine lv_dup hx hb dX7_step_131 rfl ?_
                        refine va_get (D := (dC, dI)) (ci := 7) (v := .int x138) (C := RX7) (T := TX7) (N := 8) hx hb hts hi7 hown hK hP 0 rfl rfl 4 (by decide) hk0 (fun _ h9 => h9) rfl dX7_step_132 ?_
                        refine lv_iconst (v := 1) hx hb dX7_step_135 (by decide) ?_
                        refine lv_iadd hx hb dX7_step_136 ?_
                        refine lv_topi (fun r156 h157 => ?_)
                        have f158 : r156.toInt = x138.toInt + 1 := z_iadd h157 rfl (show Int32.toInt 1 = 1 from by decide) (by omega) (by omega)
                        refine va_put (D := (dC, dI)) (ci := 7) (v := .int r156) (ty := .int) (C := RX7) (T := TX7) (N := 8) hx hb hts hi7 tyX7 tyX7_ok nmX7 hown hK hP hD hS 0 rfl rfl 4 (by decide) hk0 (fun _ h9 => h9) rfl (by decide +kernel) rfl rfl (Nat.le_of_ble_eq_true rfl) dX7_step_137 (fun H locs hP hD hS => ?_)
                        have hP : va_P (dC, dI) vwCl [(h0, .inr (7, [.ref h0_text, .int h0_length, .int h0_fault, .int h0_place, .int r156, .int 1, .int x1, .int 0])), (h0_text, .inl (cB, 600, .inl h0_text_f))] H := hP
                        have hD : va_D A [(h0, .inr (7, [.ref h0_text, .int h0_length, .int h0_fault, .int h0_place, .int r156, .int 1, .int x1, .int 0])), (h0_text, .inl (cB, 600, .inl h0_text_f))] := hD
                        refine lv_goto (tgt := 104) hx hb dX7_step_140 (by decide) ?_
                        exact ih148 r156 (show 601 - r156.toInt < (n140 : Int) from by omega) (show 0 ≤ h0_length.toInt from by omega) (show h0_length.toInt ≤ 600 from by omega) (show 0 ≤ r156.toInt from by omega) (show r156.toInt ≤ 600 from by omega) (show 0 ≤ x1.toInt from by omega) (show x1.toInt ≤ 600 from by omega) _ _ hP hD hS ls (lv_sub hl [0] rfl)
                exact hlp139 (601 - x1.toInt + 1).toNat x1 (show 601 - x1.toInt < ((601 - x1.toInt + 1).toNat : Int) from by omega) (show 0 ≤ h0_length.toInt from by omega) (show h0_length.toInt ≤ 600 from by omega) (show 0 ≤ x1.toInt from by omega) (show x1.toInt ≤ 600 from by omega) (show 0 ≤ x1.toInt from by omega) (show x1.toInt ≤ 600 from by omega) _ _ hP hD hS ls (lv_sub hl [0] rfl)
            · have f91 : h0_length.toInt ≤ x1.toInt := z_nlt rfl rfl c_90
              refine lv_aload_n hx hb dX7_step_76 rfl (lv_at hl 0 rfl) ?_
              refine lv_iconst (v := 0) hx hb dX7_step_77 (by decide) ?_
              refine va_put (D := (dC, dI)) (ci := 7) (v := .int 0) (ty := .int) (C := RX7) (T := TX7) (N := 8) hx hb hts hi7 tyX7 tyX7_ok nmX7 hown hK hP hD hS 0 rfl rfl 5 (by decide) hk5 (fun _ h9 => h9) rfl (by decide +kernel) rfl rfl (Nat.le_of_ble_eq_true rfl) dX7_step_78 (fun H locs hP hD hS => ?_)
              have hP : va_P (dC, dI) vwCl [(h0, .inr (7, [.ref h0_text, .int h0_length, .int h0_fault, .int h0_place, .int x1, .int 0, .int x1, .int 0])), (h0_text, .inl (cB, 600, .inl h0_text_f))] H := hP
              have hD : va_D A [(h0, .inr (7, [.ref h0_text, .int h0_length, .int h0_fault, .int h0_place, .int x1, .int 0, .int x1, .int 0])), (h0_text, .inl (cB, 600, .inl h0_text_f))] := hD
              refine lv_goto (tgt := 264) hx hb dX7_step_81 (by decide) ?_
              exact y_vret ((x1, 0, x1, 0) : Int32 × Int32 × Int32 × Int32) hx hb hr hlocks hK hP hD hS hAe hQ rfl ⟨(show 0 ≤ h0_length.toInt from by omega), (show h0_length.toInt ≤ 600 from by omega), (show 0 ≤ x1.toInt from by omega), (show x1.toInt ≤ 600 from by omega), (show 0 ≤ x1.toInt from by omega), (show x1.toInt ≤ 600 from by omega)⟩ dX7_step_264
          · have f89 : (h0_text_f x1.toNatClampNeg).toInt = 10 := z_eq rfl (show Int32.toInt 10 = 10 from by decide) c_88
            refine lv_aload_n hx hb dX7_step_39 rfl (lv_at hl 0 rfl) ?_
            refine lv_dup hx hb dX7_step_40 rfl ?_
            refine va_get (D := (dC, dI)) (ci := 7) (v := .int x1) (C := RX7) (T := TX7) (N := 8) hx hb hts hi7 hown hK hP 0 rfl rfl 4 (by decide) hk0 (fun _ h9 => h9) rfl dX7_step_41 ?_
            refine lv_iconst (v := 1) hx hb dX7_step_44 (by decide) ?_
            refine lv_iadd hx hb dX7_step_45 ?_
            refine lv_topi (fun r159 h160 => ?_)
            have f161 : r159.toInt = x1.toInt + 1 := z_iadd h160 rfl (show Int32.toInt 1 = 1 from by decide) (by omega) (by omega)
            refine va_put (D := (dC, dI)) (ci := 7) (v := .int r159) (ty := .int) (C := RX7) (T := TX7) (N := 8) hx hb hts hi7 tyX7 tyX7_ok nmX7 hown hK hP hD hS 0 rfl rfl 4 (by decide) hk0 (fun _ h9 => h9) rfl (by decide +kernel) rfl rfl (Nat.le_of_ble_eq_true rfl) dX7_step_46 (fun H locs hP hD hS => ?_)
            have hP : va_P (dC, dI) vwCl [(h0, .inr (7, [.ref h0_text, .int h0_length, .int h0_fault, .int h0_place, .int r159, .int h0_kind, .int h0_start, .int h0_value])), (h0_text, .inl (cB, 600, .inl h0_text_f))] H := hP
            have hD : va_D A [(h0, .inr (7, [.ref h0_text, .int h0_length, .int h0_fault, .int h0_place, .int r159, .int h0_kind, .int h0_start, .int h0_value])), (h0_text, .inl (cB, 600, .inl h0_text_f))] := hD
            refine lv_goto (tgt := 0) hx hb dX7_step_49 (by decide) ?_
            exact ih11 r159 (show 601 - r159.toInt < (n3 : Int) from by omega) (show 0 ≤ h0_length.toInt from by omega) (show h0_length.toInt ≤ 600 from by omega) (show 0 ≤ r159.toInt from by omega) (show r159.toInt ≤ 600 from by omega) (show 0 ≤ h0_start.toInt from by omega) (show h0_start.toInt ≤ 600 from by omega) _ _ hP hD hS ls (lv_sub hl [0] rfl)
  exact hlp2 (601 - h0_next.toInt + 1).toNat h0_next (show 601 - h0_next.toInt < ((601 - h0_next.toInt + 1).toNat : Int) from by omega) (show 0 ≤ h0_length.toInt from by omega) (show h0_length.toInt ≤ 600 from by omega) (show 0 ≤ h0_next.toInt from by omega) (show h0_next.toInt ≤ 600 from by omega) (show 0 ≤ h0_start.toInt from by omega) (show h0_start.toInt ≤ 600 from by omega) _ _ hP hD hS ls (lv_sub hl [0] rfl)
set_option maxHeartbeats 8000000 in
set_option maxRecDepth 100000 in
theorem k_X7_passJoint (l : Launch) (dC : Nat → ClassId) (dI : Nat → Nat → Nat) (cB cI cJ cZ cP cQ : ClassId) (adK adV : Nat → Nat) (q0 : Option Nat) (h0 : Nat) (h0_text : Nat) (sz : Nat) (h0_length : Int32) (h0_fault : Int32) (h0_place : Int32) (h0_next : Int32) (h0_kind : Int32) (h0_start : Int32) (h0_value : Int32) (h0_text_f : Nat → Int32) (e0 : 0 ≤ h0_length.toInt) (e1 : h0_length.toInt ≤ 600) (e2 : 0 ≤ h0_next.toInt) (e3 : h0_next.toInt ≤ 600) (e4 : 0 ≤ h0_start.toInt) (e5 : h0_start.toInt ≤ 600) : Met l yX7_passJoint wsX7_passJoint ({ frames := 6, cells := 0, slots := 0, locals := 183 } : Room) (sPc [.ref h0] (dC, dI) (zT cB cI cJ cZ cP cQ) [(h0, .inr (7, [.ref h0_text, .int h0_length, .int h0_fault, .int h0_place, .int h0_next, .int h0_kind, .int h0_start, .int h0_value])), (h0_text, .inl (cB, 600, .inl h0_text_f))] sz [] [] adK adV q0) (va_Qi (fun (r : Int32) (u : Int32 × Int32 × Int32 × Int32) => 0 ≤ h0_length.toInt ∧ h0_length.toInt ≤ 600 ∧ 0 ≤ u.1.toInt ∧ u.1.toInt ≤ 600 ∧ 0 ≤ u.2.2.1.toInt ∧ u.2.2.1.toInt ≤ 600) (zB (dC, dI) (zT cB cI cJ cZ cP cQ) (fun u : Int32 × Int32 × Int32 × Int32 => [(h0, .inr (7, [.ref h0_text, .int h0_length, .int h0_fault, .int h0_place, .int u.1, .int u.2.1, .int u.2.2.1, .int u.2.2.2])), (h0_text, .inl (cB, 600, .inl h0_text_f))]) [(h0, .inr (7, [.ref h0_text, .int h0_length, .int h0_fault, .int h0_place, .int h0_next, .int h0_kind, .int h0_start, .int h0_value])), (h0_text, .inl (cB, 600, .inl h0_text_f))] sz) (va_A [(h0, .inr (7, [.ref h0_text, .int h0_length, .int h0_fault, .int h0_place, .int h0_next, .int h0_kind, .int h0_start, .int h0_value])), (h0_text, .inl (cB, 600, .inl h0_text_f))] sz)) 0 0 (va_A [(h0, .inr (7, [.ref h0_text, .int h0_length, .int h0_fault, .int h0_place, .int h0_next, .int h0_kind, .int h0_start, .int h0_value])), (h0_text, .inl (cB, 600, .inl h0_text_f))] sz) := by
  refine s_enter (cc := cX7_passJoint) (maxL := 2) (ret := (some .int)) (by decide) rfl (Nat.le_of_ble_eq_true rfl) ?_
  intro p e s m below meth c A ls Q H locs hx hb hr hml hown hts hlocks hin hK hP hD hA hX hS hAe hQ hl hE
  have hown : s.vm.findClass RX7 = some m.cls := hown
  have hl : lv_has ls 2 [(0, .ref h0)] := hl
  refine lv_aload_n hx hb dX7_passJoint_0 rfl (lv_at hl 0 rfl) ?_
  refine y_fini (w' := fun (u1 : Unit) => [(h0, .inr (7, [.ref h0_text, .int h0_length, .int h0_fault, .int h0_place, .int h0_next, .int h0_kind, .int h0_start, .int h0_value])), (h0_text, .inl (cB, 600, .inl h0_text_f))]) (va_runV (As := []) (rest := []) ⟨hx, hb, hml, hown, hts⟩ (k_X7_jointNamed l dC dI cB cI cJ cZ cP cQ adK adV q0 h0 h0_text H.size h0_length h0_fault h0_place h0_next h0_kind h0_start h0_value h0_text_f (show 0 ≤ h0_length.toInt from by omega) (show h0_length.toInt ≤ 600 from by omega) (show 0 ≤ h0_next.toInt from by omega) (show h0_next.toInt ≤ 600 from by omega) (show 0 ≤ h0_start.toInt from by omega) (show h0_start.toInt ≤ 600 from by omega)) (cwV 0 hts gX7_passJoint_X7_jointNamed rfl rfl rfl ⟨rfl, hd_X7_jointNamed⟩ ⟨Nat.le_of_ble_eq_true rfl, Nat.le_of_ble_eq_true rfl⟩) (s_pV (ci := 7) hE hS hA hK hP hD zX_nil [0, 1] (by decide) rfl rfl 0 rfl) rfl rfl hl.1 rfl (lv_room (Nat.le_of_ble_eq_true rfl)) dX7_passJoint_1 ⟨Nat.le_of_ble_eq_true rfl, Nat.le_of_ble_eq_true rfl⟩) hP hD hS hA [0, 1] [] [0, 1] rfl rfl (by decide) (by decide) (fun _ => rfl) (by decide) (fun r2 u1 H locs hp3 hP hD hS => ?_)
  have hP : va_P (dC, dI) vwCl [(h0, .inr (7, [.ref h0_text, .int h0_length, .int h0_fault, .int h0_place, .int h0_next, .int h0_kind, .int h0_start, .int h0_value])), (h0_text, .inl (cB, 600, .inl h0_text_f))] H := hP
  have hD : va_D A [(h0, .inr (7, [.ref h0_text, .int h0_length, .int h0_fault, .int h0_place, .int h0_next, .int h0_kind, .int h0_start, .int h0_value])), (h0_text, .inl (cB, 600, .inl h0_text_f))] := hD
  have hp3 : (r2 = (-1) ∧ ((¬ h0_kind.toInt = 1 ∨ h0_kind.toInt = 1 ∨ h0_kind.toInt = 1) ∧ (¬ h0_kind.toInt = 1 ∨ h0_kind.toInt = 1 ∨ h0_kind.toInt = 1) ∧ (¬ h0_kind.toInt = 1 ∨ h0_kind.toInt = 1 ∨ h0_kind.toInt = 1) ∧ (¬ h0_kind.toInt = 1 ∨ h0_kind.toInt = 1 ∨ h0_kind.toInt = 1))) ∨ (r2 = 3 ∧ ((¬ h0_kind.toInt = 1 ∨ h0_kind.toInt = 1 ∨ h0_kind.toInt = 1) ∧ (¬ h0_kind.toInt = 1 ∨ h0_kind.toInt = 1 ∨ h0_kind.toInt = 1) ∧ (¬ h0_kind.toInt = 1 ∨ h0_kind.toInt = 1 ∨ h0_kind.toInt = 1) ∧ h0_kind.toInt = 1)) ∨ (r2 = 2 ∧ ((¬ h0_kind.toInt = 1 ∨ h0_kind.toInt = 1 ∨ h0_kind.toInt = 1) ∧ (¬ h0_kind.toInt = 1 ∨ h0_kind.toInt = 1 ∨ h0_kind.toInt = 1) ∧ h0_kind.toInt = 1)) ∨ (r2 = 1 ∧ ((¬ h0_kind.toInt = 1 ∨ h0_kind.toInt = 1 ∨ h0_kind.toInt = 1) ∧ h0_kind.toInt = 1)) ∨ (r2 = 0 ∧ h0_kind.toInt = 1) := hp3
  rcases hp3 with f4 | f5 | f6 | f7 | f8
  · obtain ⟨rfl, f4⟩ := f4
    refine lv_istore_n (lv' := [(1, .int (-1)), (0, .ref h0)]) hx hb dX7_passJoint_4 rfl hl (by decide) rfl (fun ls hl => ?_)
    refine lv_iload_n hx hb dX7_passJoint_5 rfl (lv_at hl 0 rfl) ?_
    refine lv_iconst (v := (-1)) hx hb dX7_passJoint_6 (by decide) ?_
    refine lv_icmp_eq (tgt := 14) hx hb dX7_passJoint_7 (by decide) (fun _ => ?_) (fun c => absurd (by decide) c)
    refine lv_iload_n hx hb dX7_passJoint_14 rfl (lv_at hl 0 rfl) ?_
    exact y_iret ((h0_next, h0_kind, h0_start, h0_value) : Int32 × Int32 × Int32 × Int32) hx hb hr hlocks hK hP hD hS hAe hQ rfl ⟨(show 0 ≤ h0_length.toInt from by omega), (show h0_length.toInt ≤ 600 from by omega), (show 0 ≤ h0_next.toInt from by omega), (show h0_next.toInt ≤ 600 from by omega), (show 0 ≤ h0_start.toInt from by omega), (show h0_start.toInt ≤ 600 from by omega)⟩ dX7_passJoint_15
  · obtain ⟨rfl, f5⟩ := f5
    refine lv_istore_n (lv' := [(1, .int 3), (0, .ref h0)]) hx hb dX7_passJoint_4 rfl hl (by decide) rfl (fun ls hl => ?_)
    refine lv_iload_n hx hb dX7_passJoint_5 rfl (lv_at hl 0 rfl) ?_
    refine lv_iconst (v := (-1)) hx hb dX7_passJoint_6 (by decide) ?_
    refine lv_icmp_eq (tgt := 14) hx hb dX7_passJoint_7 (by decide) (fun c => absurd c (by decide)) (fun _ => ?_)
    refine lv_aload_n hx hb dX7_passJoint_10 rfl (lv_at hl 1 rfl) ?_
    refine y_finv (w' := fun (u9 : Int32 × Int32 × Int32 × Int32) => [(h0, .inr (7, [.ref h0_text, .int h0_length, .int h0_fault, .int h0_place, .int u9.1, .int u9.2.1, .int u9.2.2.1, .int u9.2.2.2])), (h0_text, .inl (cB, 600, .inl h0_text_f))]) (va_runV (As := []) (rest := []) ⟨hx, hb, hml, hown, hts⟩ (k_X7_step l dC dI cB cI cJ cZ cP cQ h0 h0_text H.size h0_length h0_fault h0_place h0_next h0_kind h0_start h0_value h0_text_f (show 0 ≤ h0_length.toInt from by omega) (show h0_length.toInt ≤ 600 from by omega) (show 0 ≤ h0_next.toInt from by omega) (show h0_next.toInt ≤ 600 from by omega) (show 0 ≤ h0_start.toInt from by omega) (show h0_start.toInt ≤ 600 from by omega)) (cwV 0 hts gX7_passJoint_X7_step rfl rfl rfl ⟨rfl, hd_X7_step⟩ ⟨Nat.le_of_ble_eq_true rfl, Nat.le_of_ble_eq_true rfl⟩) (z_pV (ci := 7) hK hP hD zX_nil [0, 1] (by decide) rfl rfl 0 rfl) rfl rfl hl.1 rfl (lv_room (Nat.le_of_ble_eq_true rfl)) dX7_passJoint_11 ⟨Nat.le_of_ble_eq_true rfl, Nat.le_of_ble_eq_true rfl⟩) hP hD hS hA [0, 1] [] [0, 1] rfl rfl (by decide) (by decide) (fun _ => rfl) (by decide) (fun u9 H locs hp15 hP hD hS => ?_)
    obtain ⟨v10, v11, v12, v13⟩ := u9
    have hP : va_P (dC, dI) vwCl [(h0, .inr (7, [.ref h0_text, .int h0_length, .int h0_fault, .int h0_place, .int v10, .int v11, .int v12, .int v13])), (h0_text, .inl (cB, 600, .inl h0_text_f))] H := hP
    have hD : va_D A [(h0, .inr (7, [.ref h0_text, .int h0_length, .int h0_fault, .int h0_place, .int v10, .int v11, .int v12, .int v13])), (h0_text, .inl (cB, 600, .inl h0_text_f))] := hD
    have hp15 : 0 ≤ h0_length.toInt ∧ h0_length.toInt ≤ 600 ∧ 0 ≤ v10.toInt ∧ v10.toInt ≤ 600 ∧ 0 ≤ v12.toInt ∧ v12.toInt ≤ 600 := hp15
    obtain ⟨f16, f17, f18, f19, f20, f21⟩ := hp15
    refine lv_iload_n hx hb dX7_passJoint_14 rfl (lv_at hl 0 rfl) ?_
    exact y_iret ((v10, v11, v12, v13) : Int32 × Int32 × Int32 × Int32) hx hb hr hlocks hK hP hD hS hAe hQ rfl ⟨(show 0 ≤ h0_length.toInt from by omega), (show h0_length.toInt ≤ 600 from by omega), (show 0 ≤ v10.toInt from by omega), (show v10.toInt ≤ 600 from by omega), (show 0 ≤ v12.toInt from by omega), (show v12.toInt ≤ 600 from by omega)⟩ dX7_passJoint_15
  · obtain ⟨rfl, f6⟩ := f6
    refine lv_istore_n (lv' := [(1, .int 2), (0, .ref h0)]) hx hb dX7_passJoint_4 rfl hl (by decide) rfl (fun ls hl => ?_)
    refine lv_iload_n hx hb dX7_passJoint_5 rfl (lv_at hl 0 rfl) ?_
    refine lv_iconst (v := (-1)) hx hb dX7_passJoint_6 (by decide) ?_
    refine lv_icmp_eq (tgt := 14) hx hb dX7_passJoint_7 (by decide) (fun c => absurd c (by decide)) (fun _ => ?_)
    refine lv_aload_n hx hb dX7_passJoint_10 rfl (lv_at hl 1 rfl) ?_
    refine y_finv (w' := fun (u22 : Int32 × Int32 × Int32 × Int32) => [(h0, .inr (7, [.ref h0_text, .int h0_length, .int h0_fault, .int h0_place, .int u22.1, .int u22.2.1, .int u22.2.2.1, .int u22.2.2.2])), (h0_text, .inl (cB, 600, .inl h0_text_f))]) (va_runV (As := []) (rest := []) ⟨hx, hb, hml, hown, hts⟩ (k_X7_step l dC dI cB cI cJ cZ cP cQ h0 h0_text H.size h0_length h0_fault h0_place h0_next h0_kind h0_start h0_value h0_text_f (show 0 ≤ h0_length.toInt from by omega) (show h0_length.toInt ≤ 600 from by omega) (show 0 ≤ h0_next.toInt from by omega) (show h0_next.toInt ≤ 600 from by omega) (show 0 ≤ h0_start.toInt from by omega) (show h0_start.toInt ≤ 600 from by omega)) (cwV 0 hts gX7_passJoint_X7_step rfl rfl rfl ⟨rfl, hd_X7_step⟩ ⟨Nat.le_of_ble_eq_true rfl, Nat.le_of_ble_eq_true rfl⟩) (z_pV (ci := 7) hK hP hD zX_nil [0, 1] (by decide) rfl rfl 0 rfl) rfl rfl hl.1 rfl (lv_room (Nat.le_of_ble_eq_true rfl)) dX7_passJoint_11 ⟨Nat.le_of_ble_eq_true rfl, Nat.le_of_ble_eq_true rfl⟩) hP hD hS hA [0, 1] [] [0, 1] rfl rfl (by decide) (by decide) (fun _ => rfl) (by decide) (fun u22 H locs hp28 hP hD hS => ?_)
    obtain ⟨v23, v24, v25, v26⟩ := u22
    have hP : va_P (dC, dI) vwCl [(h0, .inr (7, [.ref h0_text, .int h0_length, .int h0_fault, .int h0_place, .int v23, .int v24, .int v25, .int v26])), (h0_text, .inl (cB, 600, .inl h0_text_f))] H := hP
    have hD : va_D A [(h0, .inr (7, [.ref h0_text, .int h0_length, .int h0_fault, .int h0_place, .int v23, .int v24, .int v25, .int v26])), (h0_text, .inl (cB, 600, .inl h0_text_f))] := hD
    have hp28 : 0 ≤ h0_length.toInt ∧ h0_length.toInt ≤ 600 ∧ 0 ≤ v23.toInt ∧ v23.toInt ≤ 600 ∧ 0 ≤ v25.toInt ∧ v25.toInt ≤ 600 := hp28
    obtain ⟨f29, f30, f31, f32, f33, f34⟩ := hp28
    refine lv_iload_n hx hb dX7_passJoint_14 rfl (lv_at hl 0 rfl) ?_
    exact y_iret ((v23, v24, v25, v26) : Int32 × Int32 × Int32 × Int32) hx hb hr hlocks hK hP hD hS hAe hQ rfl ⟨(show 0 ≤ h0_length.toInt from by omega), (show h0_length.toInt ≤ 600 from by omega), (show 0 ≤ v23.toInt from by omega), (show v23.toInt ≤ 600 from by omega), (show 0 ≤ v25.toInt from by omega), (show v25.toInt ≤ 600 from by omega)⟩ dX7_passJoint_15
  · obtain ⟨rfl, f7⟩ := f7
    refine lv_istore_n (lv' := [(1, .int 1), (0, .ref h0)]) hx hb dX7_passJoint_4 rfl hl (by decide) rfl (fun ls hl => ?_)
    refine lv_iload_n hx hb dX7_passJoint_5 rfl (lv_at hl 0 rfl) ?_
    refine lv_iconst (v := (-1)) hx hb dX7_passJoint_6 (by decide) ?_
    refine lv_icmp_eq (tgt := 14) hx hb dX7_passJoint_7 (by decide) (fun c => absurd c (by decide)) (fun _ => ?_)
    refine lv_aload_n hx hb dX7_passJoint_10 rfl (lv_at hl 1 rfl) ?_
    refine y_finv (w' := fun (u35 : Int32 × Int32 × Int32 × Int32) => [(h0, .inr (7, [.ref h0_text, .int h0_length, .int h0_fault, .int h0_place, .int u35.1, .int u35.2.1, .int u35.2.2.1, .int u35.2.2.2])), (h0_text, .inl (cB, 600, .inl h0_text_f))]) (va_runV (As := []) (rest := []) ⟨hx, hb, hml, hown, hts⟩ (k_X7_step l dC dI cB cI cJ cZ cP cQ h0 h0_text H.size h0_length h0_fault h0_place h0_next h0_kind h0_start h0_value h0_text_f (show 0 ≤ h0_length.toInt from by omega) (show h0_length.toInt ≤ 600 from by omega) (show 0 ≤ h0_next.toInt from by omega) (show h0_next.toInt ≤ 600 from by omega) (show 0 ≤ h0_start.toInt from by omega) (show h0_start.toInt ≤ 600 from by omega)) (cwV 0 hts gX7_passJoint_X7_step rfl rfl rfl ⟨rfl, hd_X7_step⟩ ⟨Nat.le_of_ble_eq_true rfl, Nat.le_of_ble_eq_true rfl⟩) (z_pV (ci := 7) hK hP hD zX_nil [0, 1] (by decide) rfl rfl 0 rfl) rfl rfl hl.1 rfl (lv_room (Nat.le_of_ble_eq_true rfl)) dX7_passJoint_11 ⟨Nat.le_of_ble_eq_true rfl, Nat.le_of_ble_eq_true rfl⟩) hP hD hS hA [0, 1] [] [0, 1] rfl rfl (by decide) (by decide) (fun _ => rfl) (by decide) (fun u35 H locs hp41 hP hD hS => ?_)
    obtain ⟨v36, v37, v38, v39⟩ := u35
    have hP : va_P (dC, dI) vwCl [(h0, .inr (7, [.ref h0_text, .int h0_length, .int h0_fault, .int h0_place, .int v36, .int v37, .int v38, .int v39])), (h0_text, .inl (cB, 600, .inl h0_text_f))] H := hP
    have hD : va_D A [(h0, .inr (7, [.ref h0_text, .int h0_length, .int h0_fault, .int h0_place, .int v36, .int v37, .int v38, .int v39])), (h0_text, .inl (cB, 600, .inl h0_text_f))] := hD
    have hp41 : 0 ≤ h0_length.toInt ∧ h0_length.toInt ≤ 600 ∧ 0 ≤ v36.toInt ∧ v36.toInt ≤ 600 ∧ 0 ≤ v38.toInt ∧ v38.toInt ≤ 600 := hp41
    obtain ⟨f42, f43, f44, f45, f46, f47⟩ := hp41
    refine lv_iload_n hx hb dX7_passJoint_14 rfl (lv_at hl 0 rfl) ?_
    exact y_iret ((v36, v37, v38, v39) : Int32 × Int32 × Int32 × Int32) hx hb hr hlocks hK hP hD hS hAe hQ rfl ⟨(show 0 ≤ h0_length.toInt from by omega), (show h0_length.toInt ≤ 600 from by omega), (show 0 ≤ v36.toInt from by omega), (show v36.toInt ≤ 600 from by omega), (show 0 ≤ v38.toInt from by omega), (show v38.toInt ≤ 600 from by omega)⟩ dX7_passJoint_15
  · obtain ⟨rfl, f8⟩ := f8
    refine lv_istore_n (lv' := [(1, .int 0), (0, .ref h0)]) hx hb dX7_passJoint_4 rfl hl (by decide) rfl (fun ls hl => ?_)
    refine lv_iload_n hx hb dX7_passJoint_5 rfl (lv_at hl 0 rfl) ?_
    refine lv_iconst (v := (-1)) hx hb dX7_passJoint_6 (by decide) ?_
    refine lv_icmp_eq (tgt := 14) hx hb dX7_passJoint_7 (by decide) (fun c => absurd c (by decide)) (fun _ => ?_)
    refine lv_aload_n hx hb dX7_passJoint_10 rfl (lv_at hl 1 rfl) ?_
    refine y_finv (w' := fun (u48 : Int32 × Int32 × Int32 × Int32) => [(h0, .inr (7, [.ref h0_text, .int h0_length, .int h0_fault, .int h0_place, .int u48.1, .int u48.2.1, .int u48.2.2.1, .int u48.2.2.2])), (h0_text, .inl (cB, 600, .inl h0_text_f))]) (va_runV (As := []) (rest := []) ⟨hx, hb, hml, hown, hts⟩ (k_X7_step l dC dI cB cI cJ cZ cP cQ h0 h0_text H.size h0_length h0_fault h0_place h0_next h0_kind h0_start h0_value h0_text_f (show 0 ≤ h0_length.toInt from by omega) (show h0_length.toInt ≤ 600 from by omega) (show 0 ≤ h0_next.toInt from by omega) (show h0_next.toInt ≤ 600 from by omega) (show 0 ≤ h0_start.toInt from by omega) (show h0_start.toInt ≤ 600 from by omega)) (cwV 0 hts gX7_passJoint_X7_step rfl rfl rfl ⟨rfl, hd_X7_step⟩ ⟨Nat.le_of_ble_eq_true rfl, Nat.le_of_ble_eq_true rfl⟩) (z_pV (ci := 7) hK hP hD zX_nil [0, 1] (by decide) rfl rfl 0 rfl) rfl rfl hl.1 rfl (lv_room (Nat.le_of_ble_eq_true rfl)) dX7_passJoint_11 ⟨Nat.le_of_ble_eq_true rfl, Nat.le_of_ble_eq_true rfl⟩) hP hD hS hA [0, 1] [] [0, 1] rfl rfl (by decide) (by decide) (fun _ => rfl) (by decide) (fun u48 H locs hp54 hP hD hS => ?_)
    obtain ⟨v49, v50, v51, v52⟩ := u48
    have hP : va_P (dC, dI) vwCl [(h0, .inr (7, [.ref h0_text, .int h0_length, .int h0_fault, .int h0_place, .int v49, .int v50, .int v51, .int v52])), (h0_text, .inl (cB, 600, .inl h0_text_f))] H := hP
    have hD : va_D A [(h0, .inr (7, [.ref h0_text, .int h0_length, .int h0_fault, .int h0_place, .int v49, .int v50, .int v51, .int v52])), (h0_text, .inl (cB, 600, .inl h0_text_f))] := hD
    have hp54 : 0 ≤ h0_length.toInt ∧ h0_length.toInt ≤ 600 ∧ 0 ≤ v49.toInt ∧ v49.toInt ≤ 600 ∧ 0 ≤ v51.toInt ∧ v51.toInt ≤ 600 := hp54
    obtain ⟨f55, f56, f57, f58, f59, f60⟩ := hp54
    refine lv_iload_n hx hb dX7_passJoint_14 rfl (lv_at hl 0 rfl) ?_
    exact y_iret ((v49, v50, v51, v52) : Int32 × Int32 × Int32 × Int32) hx hb hr hlocks hK hP hD hS hAe hQ rfl ⟨(show 0 ≤ h0_length.toInt from by omega), (show h0_length.toInt ≤ 600 from by omega), (show 0 ≤ v49.toInt from by omega), (show v49.toInt ≤ 600 from by omega), (show 0 ≤ v51.toInt from by omega), (show v51.toInt ≤ 600 from by omega)⟩ dX7_passJoint_15
set_option maxHeartbeats 8000000 in
set_option maxRecDepth 100000 in
theorem k_X7_refuse (l : Launch) (dC : Nat → ClassId) (dI : Nat → Nat → Nat) (cB cI cJ cZ cP cQ : ClassId) (h0 : Nat) (h0_text : Nat) (sz : Nat) (p1 : Int32) (h0_length : Int32) (h0_fault : Int32) (h0_place : Int32) (h0_next : Int32) (h0_kind : Int32) (h0_start : Int32) (h0_value : Int32) (e0 : 0 ≤ h0_length.toInt) (e1 : h0_length.toInt ≤ 600) (e2 : 0 ≤ h0_next.toInt) (e3 : h0_next.toInt ≤ 600) (e4 : 0 ≤ h0_start.toInt) (e5 : h0_start.toInt ≤ 600) (e6 : ¬ p1.toInt = 0) : Met l yX7_refuse wsX7_refuse ({ frames := 0, cells := 0, slots := 0, locals := 0 } : Room) (zPc [.ref h0, .int p1] (dC, dI) (zT cB cI cJ cZ cP cQ) [(h0, .inr (7, [.ref h0_text, .int h0_length, .int h0_fault, .int h0_place, .int h0_next, .int h0_kind, .int h0_start, .int h0_value]))] sz [] []) (va_Qv (fun (u : Int32 × Int32) => ¬ u.1.toInt = 0) (zB (dC, dI) (zT cB cI cJ cZ cP cQ) (fun u : Int32 × Int32 => [(h0, .inr (7, [.ref h0_text, .int h0_length, .int u.1, .int u.2, .int h0_next, .int h0_kind, .int h0_start, .int h0_value]))]) [(h0, .inr (7, [.ref h0_text, .int h0_length, .int h0_fault, .int h0_place, .int h0_next, .int h0_kind, .int h0_start, .int h0_value]))] sz) (va_A [(h0, .inr (7, [.ref h0_text, .int h0_length, .int h0_fault, .int h0_place, .int h0_next, .int h0_kind, .int h0_start, .int h0_value]))] sz)) 0 0 (va_A [(h0, .inr (7, [.ref h0_text, .int h0_length, .int h0_fault, .int h0_place, .int h0_next, .int h0_kind, .int h0_start, .int h0_value]))] sz) := by
  refine z_enter (cc := cX7_refuse) (maxL := 2) (ret := none) (by decide) rfl (Nat.le_of_ble_eq_true rfl) ?_
  intro p e s m below meth c A ls Q H locs hx hb hr hml hown hts hlocks hin hK hP hD hA hX hS hAe hQ hl
  have hown : s.vm.findClass RX7 = some m.cls := hown
  have hi7 : ∀ w ∈ wsX70, w ∈ wsX7_refuse := fun w h => List.mem_cons_of_mem _ (List.mem_append_right _ h)
  have hk0 := hts (.fieldLink RX7 22 "MonthPush$Tape" "fault" "I") (List.mem_of_getElem? (i := 1) rfl)
  have hk1 := hts (.fieldLink RX7 170 "MonthPush$Tape" "start" "I") (List.mem_of_getElem? (i := 2) rfl)
  have hk2 := hts (.fieldLink RX7 15 "MonthPush$Tape" "place" "I") (List.mem_of_getElem? (i := 3) rfl)
  have hl : lv_has ls 2 [(0, .ref h0), (1, .int p1)] := hl
  refine lv_aload_n hx hb dX7_refuse_0 rfl (lv_at hl 0 rfl) ?_
  refine va_get (D := (dC, dI)) (ci := 7) (v := .int h0_fault) (C := RX7) (T := TX7) (N := 8) hx hb hts hi7 hown hK hP 0 rfl rfl 2 (by decide) hk0 (fun _ h9 => h9) rfl dX7_refuse_1 ?_
  refine lv_if_ne (tgt := 20) hx hb dX7_refuse_4 (by decide) (fun c_1 => ?_) (fun c_1 => ?_)
  · have f2 : ¬ h0_fault.toInt = 0 := z_ne rfl (show Int32.toInt 0 = 0 from by decide) c_1
    exact y_vret ((h0_fault, h0_place) : Int32 × Int32) hx hb hr hlocks hK hP hD hS hAe hQ rfl (show ¬ h0_fault.toInt = 0 from by omega) dX7_refuse_20
  · have f2 : h0_fault.toInt = 0 := z_eq rfl (show Int32.toInt 0 = 0 from by decide) c_1
    refine lv_aload_n hx hb dX7_refuse_7 rfl (lv_at hl 0 rfl) ?_
    refine lv_iload_n hx hb dX7_refuse_8 rfl (lv_at hl 1 rfl) ?_
    refine va_put (D := (dC, dI)) (ci := 7) (v := .int p1) (ty := .int) (C := RX7) (T := TX7) (N := 8) hx hb hts hi7 tyX7 tyX7_ok nmX7 hown hK hP hD hS 0 rfl rfl 2 (by decide) hk0 (fun _ h9 => h9) rfl (by decide +kernel) rfl rfl (Nat.le_of_ble_eq_true rfl) dX7_refuse_9 (fun H locs hP hD hS => ?_)
    have hP : va_P (dC, dI) vwCl [(h0, .inr (7, [.ref h0_text, .int h0_length, .int p1, .int h0_place, .int h0_next, .int h0_kind, .int h0_start, .int h0_value]))] H := hP
    have hD : va_D A [(h0, .inr (7, [.ref h0_text, .int h0_length, .int p1, .int h0_place, .int h0_next, .int h0_kind, .int h0_start, .int h0_value]))] := hD
    refine lv_aload_n hx hb dX7_refuse_12 rfl (lv_at hl 0 rfl) ?_
    refine lv_aload_n hx hb dX7_refuse_13 rfl (lv_at hl 0 rfl) ?_
    refine va_get (D := (dC, dI)) (ci := 7) (v := .int h0_start) (C := RX7) (T := TX7) (N := 8) hx hb hts hi7 hown hK hP 0 rfl rfl 6 (by decide) hk1 (fun _ h9 => h9) rfl dX7_refuse_14 ?_
    refine va_put (D := (dC, dI)) (ci := 7) (v := .int h0_start) (ty := .int) (C := RX7) (T := TX7) (N := 8) hx hb hts hi7 tyX7 tyX7_ok nmX7 hown hK hP hD hS 0 rfl rfl 3 (by decide) hk2 (fun _ h9 => h9) rfl (by decide +kernel) rfl rfl (Nat.le_of_ble_eq_true rfl) dX7_refuse_17 (fun H locs hP hD hS => ?_)
    have hP : va_P (dC, dI) vwCl [(h0, .inr (7, [.ref h0_text, .int h0_length, .int p1, .int h0_start, .int h0_next, .int h0_kind, .int h0_start, .int h0_value]))] H := hP
    have hD : va_D A [(h0, .inr (7, [.ref h0_text, .int h0_length, .int p1, .int h0_start, .int h0_next, .int h0_kind, .int h0_start, .int h0_value]))] := hD
    exact y_vret ((p1, h0_start) : Int32 × Int32) hx hb hr hlocks hK hP hD hS hAe hQ rfl (show ¬ p1.toInt = 0 from by omega) dX7_refuse_20
set_option maxHeartbeats 8000000 in
set_option maxRecDepth 100000 in
theorem k_X7_passNumber (l : Launch) (dC : Nat → ClassId) (dI : Nat → Nat → Nat) (cB cI cJ cZ cP cQ : ClassId) (h0 : Nat) (h0_text : Nat) (sz : Nat) (p1 : Int32) (p2 : Int32) (h0_length : Int32) (h0_fault : Int32) (h0_place : Int32) (h0_next : Int32) (h0_kind : Int32) (h0_start : Int32) (h0_value : Int32) (h0_text_f : Nat → Int32) (e0 : 0 ≤ h0_length.toInt) (e1 : h0_length.toInt ≤ 600) (e2 : 0 ≤ h0_next.toInt) (e3 : h0_next.toInt ≤ 600) (e4 : 0 ≤ h0_start.toInt) (e5 : h0_start.toInt ≤ 600) (e6 : p1.toInt ≤ p2.toInt) : Met l yX7_passNumber wsX7_passNumber ({ frames := 2, cells := 0, slots := 0, locals := 60 } : Room) (zPc [.ref h0, .int p1, .int p2] (dC, dI) (zT cB cI cJ cZ cP cQ) [(h0, .inr (7, [.ref h0_text, .int h0_length, .int h0_fault, .int h0_place, .int h0_next, .int h0_kind, .int h0_start, .int h0_value])), (h0_text, .inl (cB, 600, .inl h0_text_f))] sz [] []) (va_Qi (fun (r : Int32) (u : Int32 × Int32 × Int32 × Int32 × Int32 × Int32) => 0 ≤ h0_length.toInt ∧ h0_length.toInt ≤ 600 ∧ 0 ≤ u.2.2.1.toInt ∧ u.2.2.1.toInt ≤ 600 ∧ 0 ≤ u.2.2.2.2.1.toInt ∧ u.2.2.2.2.1.toInt ≤ 600 ∧ p1.toInt ≤ r.toInt ∧ r.toInt ≤ p2.toInt) (zB (dC, dI) (zT cB cI cJ cZ cP cQ) (fun u : Int32 × Int32 × Int32 × Int32 × Int32 × Int32 => [(h0, .inr (7, [.ref h0_text, .int h0_length, .int u.1, .int u.2.1, .int u.2.2.1, .int u.2.2.2.1, .int u.2.2.2.2.1, .int u.2.2.2.2.2])), (h0_text, .inl (cB, 600, .inl h0_text_f))]) [(h0, .inr (7, [.ref h0_text, .int h0_length, .int h0_fault, .int h0_place, .int h0_next, .int h0_kind, .int h0_start, .int h0_value])), (h0_text, .inl (cB, 600, .inl h0_text_f))] sz) (va_A [(h0, .inr (7, [.ref h0_text, .int h0_length, .int h0_fault, .int h0_place, .int h0_next, .int h0_kind, .int h0_start, .int h0_value])), (h0_text, .inl (cB, 600, .inl h0_text_f))] sz)) 0 0 (va_A [(h0, .inr (7, [.ref h0_text, .int h0_length, .int h0_fault, .int h0_place, .int h0_next, .int h0_kind, .int h0_start, .int h0_value])), (h0_text, .inl (cB, 600, .inl h0_text_f))] sz) := by
  refine z_enter (cc := cX7_passNumber) (maxL := 4) (ret := (some .int)) (by decide) rfl (Nat.le_of_ble_eq_true rfl) ?_
  intro p e s m below meth c A ls Q H locs hx hb hr hml hown hts hlocks hin hK hP hD hA hX hS hAe hQ hl
  have hown : s.vm.findClass RX7 = some m.cls := hown
  have hi7 : ∀ w ∈ wsX70, w ∈ wsX7_passNumber := fun w h => List.mem_cons_of_mem _ (List.mem_append_right _ h)
  have hk0 := hts (.fieldLink RX7 36 "MonthPush$Tape" "kind" "I") (List.mem_of_getElem? (i := 1) rfl)
  have hk1 := hts (.fieldLink RX7 116 "MonthPush$Tape" "value" "I") (List.mem_of_getElem? (i := 2) rfl)
  have hk2 := hts (.fieldLink RX7 22 "MonthPush$Tape" "fault" "I") (List.mem_of_getElem? (i := 3) rfl)
  have hl : lv_has ls 4 [(0, .ref h0), (1, .int p1), (2, .int p2)] := hl
  refine lv_aload_n hx hb dX7_passNumber_0 rfl (lv_at hl 0 rfl) ?_
  refine va_get (D := (dC, dI)) (ci := 7) (v := .int h0_kind) (C := RX7) (T := TX7) (N := 8) hx hb hts hi7 hown hK hP 0 rfl rfl 5 (by decide) hk0 (fun _ h9 => h9) rfl dX7_passNumber_1 ?_
  refine lv_iconst (v := 2) hx hb dX7_passNumber_4 (by decide) ?_
  refine lv_icmp_eq (tgt := 16) hx hb dX7_passNumber_5 (by decide) (fun c_1 => ?_) (fun c_1 => ?_)
  · have f2 : h0_kind.toInt = 2 := z_eq rfl (show Int32.toInt 2 = 2 from by decide) c_1
    refine lv_aload_n hx hb dX7_passNumber_16 rfl (lv_at hl 0 rfl) ?_
    refine va_get (D := (dC, dI)) (ci := 7) (v := .int h0_value) (C := RX7) (T := TX7) (N := 8) hx hb hts hi7 hown hK hP 0 rfl rfl 7 (by decide) hk1 (fun _ h9 => h9) rfl dX7_passNumber_17 ?_
    refine lv_iload_n hx hb dX7_passNumber_20 rfl (lv_at hl 1 rfl) ?_
    refine lv_icmp_lt (tgt := 32) hx hb dX7_passNumber_21 (by decide) (fun c_3 => ?_) (fun c_3 => ?_)
    · have f4 : h0_value.toInt < p1.toInt := z_lt rfl rfl c_3
      refine lv_aload_n hx hb dX7_passNumber_32 rfl (lv_at hl 0 rfl) ?_
      refine lv_iconst (v := 2) hx hb dX7_passNumber_33 (by decide) ?_
      refine y_finv (w' := fun (u5 : Int32 × Int32) => [(h0, .inr (7, [.ref h0_text, .int h0_length, .int u5.1, .int u5.2, .int h0_next, .int h0_kind, .int h0_start, .int h0_value])), (h0_text, .inl (cB, 600, .inl h0_text_f))]) (va_runV (As := [.int 2]) (rest := []) ⟨hx, hb, hml, hown, hts⟩ (k_X7_refuse l dC dI cB cI cJ cZ cP cQ h0 h0_text H.size 2 h0_length h0_fault h0_place h0_next h0_kind h0_start h0_value (show 0 ≤ h0_length.toInt from by omega) (show h0_length.toInt ≤ 600 from by omega) (show 0 ≤ h0_next.toInt from by omega) (show h0_next.toInt ≤ 600 from by omega) (show 0 ≤ h0_start.toInt from by omega) (show h0_start.toInt ≤ 600 from by omega) (show ¬ (2 : Int) = 0 from by omega)) (cwV 1 hts gX7_passNumber_X7_refuse rfl rfl rfl ⟨rfl, hd_X7_refuse⟩ ⟨Nat.le_of_ble_eq_true rfl, Nat.le_of_ble_eq_true rfl⟩) (z_pV (ci := 7) hK hP hD zX_nil [0] (by decide) rfl rfl 0 rfl) rfl rfl hl.1 rfl (lv_room (Nat.le_of_ble_eq_true rfl)) dX7_passNumber_34 ⟨Nat.le_of_ble_eq_true rfl, Nat.le_of_ble_eq_true rfl⟩) hP hD hS hA [0] [1] [1, 0] rfl rfl (by decide) (by decide) (fun _ => rfl) (by decide) (fun u5 H locs hp9 hP hD hS => ?_)
      obtain ⟨v6, v7⟩ := u5
      have hP : va_P (dC, dI) vwCl [(h0, .inr (7, [.ref h0_text, .int h0_length, .int v6, .int v7, .int h0_next, .int h0_kind, .int h0_start, .int h0_value])), (h0_text, .inl (cB, 600, .inl h0_text_f))] H := hP
      have hD : va_D A [(h0, .inr (7, [.ref h0_text, .int h0_length, .int v6, .int v7, .int h0_next, .int h0_kind, .int h0_start, .int h0_value])), (h0_text, .inl (cB, 600, .inl h0_text_f))] := hD
      have hp9 : ¬ v6.toInt = 0 := hp9
      have f10 := hp9
      refine lv_aload_n hx hb dX7_passNumber_37 rfl (lv_at hl 0 rfl) ?_
      refine va_get (D := (dC, dI)) (ci := 7) (v := .int v6) (C := RX7) (T := TX7) (N := 8) hx hb hts hi7 hown hK hP 0 rfl rfl 2 (by decide) hk2 (fun _ h9 => h9) rfl dX7_passNumber_38 ?_
      refine lv_if_eq (tgt := 46) hx hb dX7_passNumber_41 (by decide) (fun c_11 => ?_) (fun c_11 => ?_)
      · have f12 : v6.toInt = 0 := z_eq rfl (show Int32.toInt 0 = 0 from by decide) c_11
        refine lv_aload_n hx hb dX7_passNumber_46 rfl (lv_at hl 0 rfl) ?_
        refine va_get (D := (dC, dI)) (ci := 7) (v := .int h0_value) (C := RX7) (T := TX7) (N := 8) hx hb hts hi7 hown hK hP 0 rfl rfl 7 (by decide) hk1 (fun _ h9 => h9) rfl dX7_passNumber_47 ?_
        refine lv_istore_n (lv' := [(3, .int h0_value), (0, .ref h0), (1, .int p1), (2, .int p2)]) hx hb dX7_passNumber_50 rfl hl (by decide) rfl (fun ls hl => ?_)
        refine lv_aload_n hx hb dX7_passNumber_51 rfl (lv_at hl 1 rfl) ?_
        refine y_finv (w' := fun (u13 : Int32 × Int32 × Int32 × Int32) => [(h0, .inr (7, [.ref h0_text, .int h0_length, .int v6, .int v7, .int u13.1, .int u13.2.1, .int u13.2.2.1, .int u13.2.2.2])), (h0_text, .inl (cB, 600, .inl h0_text_f))]) (va_runV (As := []) (rest := []) ⟨hx, hb, hml, hown, hts⟩ (k_X7_step l dC dI cB cI cJ cZ cP cQ h0 h0_text H.size h0_length v6 v7 h0_next h0_kind h0_start h0_value h0_text_f (show 0 ≤ h0_length.toInt from by omega) (show h0_length.toInt ≤ 600 from by omega) (show 0 ≤ h0_next.toInt from by omega) (show h0_next.toInt ≤ 600 from by omega) (show 0 ≤ h0_start.toInt from by omega) (show h0_start.toInt ≤ 600 from by omega)) (cwV 0 hts gX7_passNumber_X7_step rfl rfl rfl ⟨rfl, hd_X7_step⟩ ⟨Nat.le_of_ble_eq_true rfl, Nat.le_of_ble_eq_true rfl⟩) (z_pV (ci := 7) hK hP hD zX_nil [0, 1] (by decide) rfl rfl 0 rfl) rfl rfl hl.1 rfl (lv_room (Nat.le_of_ble_eq_true rfl)) dX7_passNumber_52 ⟨Nat.le_of_ble_eq_true rfl, Nat.le_of_ble_eq_true rfl⟩) hP hD hS hA [0, 1] [] [0, 1] rfl rfl (by decide) (by decide) (fun _ => rfl) (by decide) (fun u13 H locs hp19 hP hD hS => ?_)
        obtain ⟨v14, v15, v16, v17⟩ := u13
        have hP : va_P (dC, dI) vwCl [(h0, .inr (7, [.ref h0_text, .int h0_length, .int v6, .int v7, .int v14, .int v15, .int v16, .int v17])), (h0_text, .inl (cB, 600, .inl h0_text_f))] H := hP
        have hD : va_D A [(h0, .inr (7, [.ref h0_text, .int h0_length, .int v6, .int v7, .int v14, .int v15, .int v16, .int v17])), (h0_text, .inl (cB, 600, .inl h0_text_f))] := hD
        have hp19 : 0 ≤ h0_length.toInt ∧ h0_length.toInt ≤ 600 ∧ 0 ≤ v14.toInt ∧ v14.toInt ≤ 600 ∧ 0 ≤ v16.toInt ∧ v16.toInt ≤ 600 := hp19
        obtain ⟨f20, f21, f22, f23, f24, f25⟩ := hp19
        refine lv_iload_n hx hb dX7_passNumber_55 rfl (lv_at hl 0 rfl) ?_
        exact y_iret ((v6, v7, v14, v15, v16, v17) : Int32 × Int32 × Int32 × Int32 × Int32 × Int32) hx hb hr hlocks hK hP hD hS hAe hQ rfl ⟨(show 0 ≤ h0_length.toInt from by omega), (show h0_length.toInt ≤ 600 from by omega), (show 0 ≤ v14.toInt from by omega), (show v14.toInt ≤ 600 from by omega), (show 0 ≤ v16.toInt from by omega), (show v16.toInt ≤ 600 from by omega), (show p1.toInt ≤ h0_value.toInt from by omega), (show h0_value.toInt ≤ p2.toInt from by omega)⟩ dX7_passNumber_56
      · have f12 : ¬ v6.toInt = 0 := z_ne rfl (show Int32.toInt 0 = 0 from by decide) c_11
        refine lv_iload_n hx hb dX7_passNumber_44 rfl (lv_at hl 1 rfl) ?_
        exact y_iret ((v6, v7, h0_next, h0_kind, h0_start, h0_value) : Int32 × Int32 × Int32 × Int32 × Int32 × Int32) hx hb hr hlocks hK hP hD hS hAe hQ rfl ⟨(show 0 ≤ h0_length.toInt from by omega), (show h0_length.toInt ≤ 600 from by omega), (show 0 ≤ h0_next.toInt from by omega), (show h0_next.toInt ≤ 600 from by omega), (show 0 ≤ h0_start.toInt from by omega), (show h0_start.toInt ≤ 600 from by omega), (show p1.toInt ≤ p1.toInt from by omega), (show p1.toInt ≤ p2.toInt from by omega)⟩ dX7_passNumber_45
    · have f4 : p1.toInt ≤ h0_value.toInt := z_nlt rfl rfl c_3
      refine lv_aload_n hx hb dX7_passNumber_24 rfl (lv_at hl 0 rfl) ?_
      refine va_get (D := (dC, dI)) (ci := 7) (v := .int h0_value) (C := RX7) (T := TX7) (N := 8) hx hb hts hi7 hown hK hP 0 rfl rfl 7 (by decide) hk1 (fun _ h9 => h9) rfl dX7_passNumber_25 ?_
      refine lv_iload_n hx hb dX7_passNumber_28 rfl (lv_at hl 2 rfl) ?_
      refine lv_icmp_le (tgt := 37) hx hb dX7_passNumber_29 (by decide) (fun c_26 => ?_) (fun c_26 => ?_)
      · have f27 : h0_value.toInt ≤ p2.toInt := z_le rfl rfl c_26
        refine lv_aload_n hx hb dX7_passNumber_37 rfl (lv_at hl 0 rfl) ?_
        refine va_get (D := (dC, dI)) (ci := 7) (v := .int h0_fault) (C := RX7) (T := TX7) (N := 8) hx hb hts hi7 hown hK hP 0 rfl rfl 2 (by decide) hk2 (fun _ h9 => h9) rfl dX7_passNumber_38 ?_
        refine lv_if_eq (tgt := 46) hx hb dX7_passNumber_41 (by decide) (fun c_28 => ?_) (fun c_28 => ?_)
        · have f29 : h0_fault.toInt = 0 := z_eq rfl (show Int32.toInt 0 = 0 from by decide) c_28
          refine lv_aload_n hx hb dX7_passNumber_46 rfl (lv_at hl 0 rfl) ?_
          refine va_get (D := (dC, dI)) (ci := 7) (v := .int h0_value) (C := RX7) (T := TX7) (N := 8) hx hb hts hi7 hown hK hP 0 rfl rfl 7 (by decide) hk1 (fun _ h9 => h9) rfl dX7_passNumber_47 ?_
          refine lv_istore_n (lv' := [(3, .int h0_value), (0, .ref h0), (1, .int p1), (2, .int p2)]) hx hb dX7_passNumber_50 rfl hl (by decide) rfl (fun ls hl => ?_)
          refine lv_aload_n hx hb dX7_passNumber_51 rfl (lv_at hl 1 rfl) ?_
          refine y_finv (w' := fun (u30 : Int32 × Int32 × Int32 × Int32) => [(h0, .inr (7, [.ref h0_text, .int h0_length, .int h0_fault, .int h0_place, .int u30.1, .int u30.2.1, .int u30.2.2.1, .int u30.2.2.2])), (h0_text, .inl (cB, 600, .inl h0_text_f))]) (va_runV (As := []) (rest := []) ⟨hx, hb, hml, hown, hts⟩ (k_X7_step l dC dI cB cI cJ cZ cP cQ h0 h0_text H.size h0_length h0_fault h0_place h0_next h0_kind h0_start h0_value h0_text_f (show 0 ≤ h0_length.toInt from by omega) (show h0_length.toInt ≤ 600 from by omega) (show 0 ≤ h0_next.toInt from by omega) (show h0_next.toInt ≤ 600 from by omega) (show 0 ≤ h0_start.toInt from by omega) (show h0_start.toInt ≤ 600 from by omega)) (cwV 0 hts gX7_passNumber_X7_step rfl rfl rfl ⟨rfl, hd_X7_step⟩ ⟨Nat.le_of_ble_eq_true rfl, Nat.le_of_ble_eq_true rfl⟩) (z_pV (ci := 7) hK hP hD zX_nil [0, 1] (by decide) rfl rfl 0 rfl) rfl rfl hl.1 rfl (lv_room (Nat.le_of_ble_eq_true rfl)) dX7_passNumber_52 ⟨Nat.le_of_ble_eq_true rfl, Nat.le_of_ble_eq_true rfl⟩) hP hD hS hA [0, 1] [] [0, 1] rfl rfl (by decide) (by decide) (fun _ => rfl) (by decide) (fun u30 H locs hp36 hP hD hS => ?_)
          obtain ⟨v31, v32, v33, v34⟩ := u30
          have hP : va_P (dC, dI) vwCl [(h0, .inr (7, [.ref h0_text, .int h0_length, .int h0_fault, .int h0_place, .int v31, .int v32, .int v33, .int v34])), (h0_text, .inl (cB, 600, .inl h0_text_f))] H := hP
          have hD : va_D A [(h0, .inr (7, [.ref h0_text, .int h0_length, .int h0_fault, .int h0_place, .int v31, .int v32, .int v33, .int v34])), (h0_text, .inl (cB, 600, .inl h0_text_f))] := hD
          have hp36 : 0 ≤ h0_length.toInt ∧ h0_length.toInt ≤ 600 ∧ 0 ≤ v31.toInt ∧ v31.toInt ≤ 600 ∧ 0 ≤ v33.toInt ∧ v33.toInt ≤ 600 := hp36
          obtain ⟨f37, f38, f39, f40, f41, f42⟩ := hp36
          refine lv_iload_n hx hb dX7_passNumber_55 rfl (lv_at hl 0 rfl) ?_
          exact y_iret ((h0_fault, h0_place, v31, v32, v33, v34) : Int32 × Int32 × Int32 × Int32 × Int32 × Int32) hx hb hr hlocks hK hP hD hS hAe hQ rfl ⟨(show 0 ≤ h0_length.toInt from by omega), (show h0_length.toInt ≤ 600 from by omega), (show 0 ≤ v31.toInt from by omega), (show v31.toInt ≤ 600 from by omega), (show 0 ≤ v33.toInt from by omega), (show v33.toInt ≤ 600 from by omega), (show p1.toInt ≤ h0_value.toInt from by omega), (show h0_value.toInt ≤ p2.toInt from by omega)⟩ dX7_passNumber_56
        · have f29 : ¬ h0_fault.toInt = 0 := z_ne rfl (show Int32.toInt 0 = 0 from by decide) c_28
          refine lv_iload_n hx hb dX7_passNumber_44 rfl (lv_at hl 1 rfl) ?_
          exact y_iret ((h0_fault, h0_place, h0_next, h0_kind, h0_start, h0_value) : Int32 × Int32 × Int32 × Int32 × Int32 × Int32) hx hb hr hlocks hK hP hD hS hAe hQ rfl ⟨(show 0 ≤ h0_length.toInt from by omega), (show h0_length.toInt ≤ 600 from by omega), (show 0 ≤ h0_next.toInt from by omega), (show h0_next.toInt ≤ 600 from by omega), (show 0 ≤ h0_start.toInt from by omega), (show h0_start.toInt ≤ 600 from by omega), (show p1.toInt ≤ p1.toInt from by omega), (show p1.toInt ≤ p2.toInt from by omega)⟩ dX7_passNumber_45
      · have f27 : p2.toInt < h0_value.toInt := z_nle rfl rfl c_26
        refine lv_aload_n hx hb dX7_passNumber_32 rfl (lv_at hl 0 rfl) ?_
        refine lv_iconst (v := 2) hx hb dX7_passNumber_33 (by decide) ?_
        refine y_finv (w' := fun (u43 : Int32 × Int32) => [(h0, .inr (7, [.ref h0_text, .int h0_length, .int u43.1, .int u43.2, .int h0_next, .int h0_kind, .int h0_start, .int h0_value])), (h0_text, .inl (cB, 600, .inl h0_text_f))]) (va_runV (As := [.int 2]) (rest := []) ⟨hx, hb, hml, hown, hts⟩ (k_X7_refuse l dC dI cB cI cJ cZ cP cQ h0 h0_text H.size 2 h0_length h0_fault h0_place h0_next h0_kind h0_start h0_value (show 0 ≤ h0_length.toInt from by omega) (show h0_length.toInt ≤ 600 from by omega) (show 0 ≤ h0_next.toInt from by omega) (show h0_next.toInt ≤ 600 from by omega) (show 0 ≤ h0_start.toInt from by omega) (show h0_start.toInt ≤ 600 from by omega) (show ¬ (2 : Int) = 0 from by omega)) (cwV 1 hts gX7_passNumber_X7_refuse rfl rfl rfl ⟨rfl, hd_X7_refuse⟩ ⟨Nat.le_of_ble_eq_true rfl, Nat.le_of_ble_eq_true rfl⟩) (z_pV (ci := 7) hK hP hD zX_nil [0] (by decide) rfl rfl 0 rfl) rfl rfl hl.1 rfl (lv_room (Nat.le_of_ble_eq_true rfl)) dX7_passNumber_34 ⟨Nat.le_of_ble_eq_true rfl, Nat.le_of_ble_eq_true rfl⟩) hP hD hS hA [0] [1] [1, 0] rfl rfl (by decide) (by decide) (fun _ => rfl) (by decide) (fun u43 H locs hp47 hP hD hS => ?_)
        obtain ⟨v44, v45⟩ := u43
        have hP : va_P (dC, dI) vwCl [(h0, .inr (7, [.ref h0_text, .int h0_length, .int v44, .int v45, .int h0_next, .int h0_kind, .int h0_start, .int h0_value])), (h0_text, .inl (cB, 600, .inl h0_text_f))] H := hP
        have hD : va_D A [(h0, .inr (7, [.ref h0_text, .int h0_length, .int v44, .int v45, .int h0_next, .int h0_kind, .int h0_start, .int h0_value])), (h0_text, .inl (cB, 600, .inl h0_text_f))] := hD
        have hp47 : ¬ v44.toInt = 0 := hp47
        have f48 := hp47
        refine lv_aload_n hx hb dX7_passNumber_37 rfl (lv_at hl 0 rfl) ?_
        refine va_get (D := (dC, dI)) (ci := 7) (v := .int v44) (C := RX7) (T := TX7) (N := 8) hx hb hts hi7 hown hK hP 0 rfl rfl 2 (by decide) hk2 (fun _ h9 => h9) rfl dX7_passNumber_38 ?_
        refine lv_if_eq (tgt := 46) hx hb dX7_passNumber_41 (by decide) (fun c_49 => ?_) (fun c_49 => ?_)
        · have f50 : v44.toInt = 0 := z_eq rfl (show Int32.toInt 0 = 0 from by decide) c_49
          refine lv_aload_n hx hb dX7_passNumber_46 rfl (lv_at hl 0 rfl) ?_
          refine va_get (D := (dC, dI)) (ci := 7) (v := .int h0_value) (C := RX7) (T := TX7) (N := 8) hx hb hts hi7 hown hK hP 0 rfl rfl 7 (by decide) hk1 (fun _ h9 => h9) rfl dX7_passNumber_47 ?_
          refine lv_istore_n (lv' := [(3, .int h0_value), (0, .ref h0), (1, .int p1), (2, .int p2)]) hx hb dX7_passNumber_50 rfl hl (by decide) rfl (fun ls hl => ?_)
          refine lv_aload_n hx hb dX7_passNumber_51 rfl (lv_at hl 1 rfl) ?_
          refine y_finv (w' := fun (u51 : Int32 × Int32 × Int32 × Int32) => [(h0, .inr (7, [.ref h0_text, .int h0_length, .int v44, .int v45, .int u51.1, .int u51.2.1, .int u51.2.2.1, .int u51.2.2.2])), (h0_text, .inl (cB, 600, .inl h0_text_f))]) (va_runV (As := []) (rest := []) ⟨hx, hb, hml, hown, hts⟩ (k_X7_step l dC dI cB cI cJ cZ cP cQ h0 h0_text H.size h0_length v44 v45 h0_next h0_kind h0_start h0_value h0_text_f (show 0 ≤ h0_length.toInt from by omega) (show h0_length.toInt ≤ 600 from by omega) (show 0 ≤ h0_next.toInt from by omega) (show h0_next.toInt ≤ 600 from by omega) (show 0 ≤ h0_start.toInt from by omega) (show h0_start.toInt ≤ 600 from by omega)) (cwV 0 hts gX7_passNumber_X7_step rfl rfl rfl ⟨rfl, hd_X7_step⟩ ⟨Nat.le_of_ble_eq_true rfl, Nat.le_of_ble_eq_true rfl⟩) (z_pV (ci := 7) hK hP hD zX_nil [0, 1] (by decide) rfl rfl 0 rfl) rfl rfl hl.1 rfl (lv_room (Nat.le_of_ble_eq_true rfl)) dX7_passNumber_52 ⟨Nat.le_of_ble_eq_true rfl, Nat.le_of_ble_eq_true rfl⟩) hP hD hS hA [0, 1] [] [0, 1] rfl rfl (by decide) (by decide) (fun _ => rfl) (by decide) (fun u51 H locs hp57 hP hD hS => ?_)
          obtain ⟨v52, v53, v54, v55⟩ := u51
          have hP : va_P (dC, dI) vwCl [(h0, .inr (7, [.ref h0_text, .int h0_length, .int v44, .int v45, .int v52, .int v53, .int v54, .int v55])), (h0_text, .inl (cB, 600, .inl h0_text_f))] H := hP
          have hD : va_D A [(h0, .inr (7, [.ref h0_text, .int h0_length, .int v44, .int v45, .int v52, .int v53, .int v54, .int v55])), (h0_text, .inl (cB, 600, .inl h0_text_f))] := hD
          have hp57 : 0 ≤ h0_length.toInt ∧ h0_length.toInt ≤ 600 ∧ 0 ≤ v52.toInt ∧ v52.toInt ≤ 600 ∧ 0 ≤ v54.toInt ∧ v54.toInt ≤ 600 := hp57
          obtain ⟨f58, f59, f60, f61, f62, f63⟩ := hp57
          refine lv_iload_n hx hb dX7_passNumber_55 rfl (lv_at hl 0 rfl) ?_
          exact y_iret ((v44, v45, v52, v53, v54, v55) : Int32 × Int32 × Int32 × Int32 × Int32 × Int32) hx hb hr hlocks hK hP hD hS hAe hQ rfl ⟨(show 0 ≤ h0_length.toInt from by omega), (show h0_length.toInt ≤ 600 from by omega), (show 0 ≤ v52.toInt from by omega), (show v52.toInt ≤ 600 from by omega), (show 0 ≤ v54.toInt from by omega), (show v54.toInt ≤ 600 from by omega), (show p1.toInt ≤ h0_value.toInt from by omega), (show h0_value.toInt ≤ p2.toInt from by omega)⟩ dX7_passNumber_56
        · have f50 : ¬ v44.toInt = 0 := z_ne rfl (show Int32.toInt 0 = 0 from by decide) c_49
          refine lv_iload_n hx hb dX7_passNumber_44 rfl (lv_at hl 1 rfl) ?_
          exact y_iret ((v44, v45, h0_next, h0_kind, h0_start, h0_value) : Int32 × Int32 × Int32 × Int32 × Int32 × Int32) hx hb hr hlocks hK hP hD hS hAe hQ rfl ⟨(show 0 ≤ h0_length.toInt from by omega), (show h0_length.toInt ≤ 600 from by omega), (show 0 ≤ h0_next.toInt from by omega), (show h0_next.toInt ≤ 600 from by omega), (show 0 ≤ h0_start.toInt from by omega), (show h0_start.toInt ≤ 600 from by omega), (show p1.toInt ≤ p1.toInt from by omega), (show p1.toInt ≤ p2.toInt from by omega)⟩ dX7_passNumber_45
  · have f2 : ¬ h0_kind.toInt = 2 := z_ne rfl (show Int32.toInt 2 = 2 from by decide) c_1
    refine lv_aload_n hx hb dX7_passNumber_8 rfl (lv_at hl 0 rfl) ?_
    refine lv_iconst (v := 1) hx hb dX7_passNumber_9 (by decide) ?_
    refine y_finv (w' := fun (u64 : Int32 × Int32) => [(h0, .inr (7, [.ref h0_text, .int h0_length, .int u64.1, .int u64.2, .int h0_next, .int h0_kind, .int h0_start, .int h0_value])), (h0_text, .inl (cB, 600, .inl h0_text_f))]) (va_runV (As := [.int 1]) (rest := []) ⟨hx, hb, hml, hown, hts⟩ (k_X7_refuse l dC dI cB cI cJ cZ cP cQ h0 h0_text H.size 1 h0_length h0_fault h0_place h0_next h0_kind h0_start h0_value (show 0 ≤ h0_length.toInt from by omega) (show h0_length.toInt ≤ 600 from by omega) (show 0 ≤ h0_next.toInt from by omega) (show h0_next.toInt ≤ 600 from by omega) (show 0 ≤ h0_start.toInt from by omega) (show h0_start.toInt ≤ 600 from by omega) (show ¬ (1 : Int) = 0 from by omega)) (cwV 1 hts gX7_passNumber_X7_refuse rfl rfl rfl ⟨rfl, hd_X7_refuse⟩ ⟨Nat.le_of_ble_eq_true rfl, Nat.le_of_ble_eq_true rfl⟩) (z_pV (ci := 7) hK hP hD zX_nil [0] (by decide) rfl rfl 0 rfl) rfl rfl hl.1 rfl (lv_room (Nat.le_of_ble_eq_true rfl)) dX7_passNumber_10 ⟨Nat.le_of_ble_eq_true rfl, Nat.le_of_ble_eq_true rfl⟩) hP hD hS hA [0] [1] [1, 0] rfl rfl (by decide) (by decide) (fun _ => rfl) (by decide) (fun u64 H locs hp68 hP hD hS => ?_)
    obtain ⟨v65, v66⟩ := u64
    have hP : va_P (dC, dI) vwCl [(h0, .inr (7, [.ref h0_text, .int h0_length, .int v65, .int v66, .int h0_next, .int h0_kind, .int h0_start, .int h0_value])), (h0_text, .inl (cB, 600, .inl h0_text_f))] H := hP
    have hD : va_D A [(h0, .inr (7, [.ref h0_text, .int h0_length, .int v65, .int v66, .int h0_next, .int h0_kind, .int h0_start, .int h0_value])), (h0_text, .inl (cB, 600, .inl h0_text_f))] := hD
    have hp68 : ¬ v65.toInt = 0 := hp68
    have f69 := hp68
    refine lv_goto (tgt := 37) hx hb dX7_passNumber_13 (by decide) ?_
    refine lv_aload_n hx hb dX7_passNumber_37 rfl (lv_at hl 0 rfl) ?_
    refine va_get (D := (dC, dI)) (ci := 7) (v := .int v65) (C := RX7) (T := TX7) (N := 8) hx hb hts hi7 hown hK hP 0 rfl rfl 2 (by decide) hk2 (fun _ h9 => h9) rfl dX7_passNumber_38 ?_
    refine lv_if_eq (tgt := 46) hx hb dX7_passNumber_41 (by decide) (fun c_70 => ?_) (fun c_70 => ?_)
    · have f71 : v65.toInt = 0 := z_eq rfl (show Int32.toInt 0 = 0 from by decide) c_70
      refine lv_aload_n hx hb dX7_passNumber_46 rfl (lv_at hl 0 rfl) ?_
      refine va_get (D := (dC, dI)) (ci := 7) (v := .int h0_value) (C := RX7) (T := TX7) (N := 8) hx hb hts hi7 hown hK hP 0 rfl rfl 7 (by decide) hk1 (fun _ h9 => h9) rfl dX7_passNumber_47 ?_
      refine lv_istore_n (lv' := [(3, .int h0_value), (0, .ref h0), (1, .int p1), (2, .int p2)]) hx hb dX7_passNumber_50 rfl hl (by decide) rfl (fun ls hl => ?_)
      refine lv_aload_n hx hb dX7_passNumber_51 rfl (lv_at hl 1 rfl) ?_
      refine y_finv (w' := fun (u72 : Int32 × Int32 × Int32 × Int32) => [(h0, .inr (7, [.ref h0_text, .int h0_length, .int v65, .int v66, .int u72.1, .int u72.2.1, .int u72.2.2.1, .int u72.2.2.2])), (h0_text, .inl (cB, 600, .inl h0_text_f))]) (va_runV (As := []) (rest := []) ⟨hx, hb, hml, hown, hts⟩ (k_X7_step l dC dI cB cI cJ cZ cP cQ h0 h0_text H.size h0_length v65 v66 h0_next h0_kind h0_start h0_value h0_text_f (show 0 ≤ h0_length.toInt from by omega) (show h0_length.toInt ≤ 600 from by omega) (show 0 ≤ h0_next.toInt from by omega) (show h0_next.toInt ≤ 600 from by omega) (show 0 ≤ h0_start.toInt from by omega) (show h0_start.toInt ≤ 600 from by omega)) (cwV 0 hts gX7_passNumber_X7_step rfl rfl rfl ⟨rfl, hd_X7_step⟩ ⟨Nat.le_of_ble_eq_true rfl, Nat.le_of_ble_eq_true rfl⟩) (z_pV (ci := 7) hK hP hD zX_nil [0, 1] (by decide) rfl rfl 0 rfl) rfl rfl hl.1 rfl (lv_room (Nat.le_of_ble_eq_true rfl)) dX7_passNumber_52 ⟨Nat.le_of_ble_eq_true rfl, Nat.le_of_ble_eq_true rfl⟩) hP hD hS hA [0, 1] [] [0, 1] rfl rfl (by decide) (by decide) (fun _ => rfl) (by decide) (fun u72 H locs hp78 hP hD hS => ?_)
      obtain ⟨v73, v74, v75, v76⟩ := u72
      have hP : va_P (dC, dI) vwCl [(h0, .inr (7, [.ref h0_text, .int h0_length, .int v65, .int v66, .int v73, .int v74, .int v75, .int v76])), (h0_text, .inl (cB, 600, .inl h0_text_f))] H := hP
      have hD : va_D A [(h0, .inr (7, [.ref h0_text, .int h0_length, .int v65, .int v66, .int v73, .int v74, .int v75, .int v76])), (h0_text, .inl (cB, 600, .inl h0_text_f))] := hD
      have hp78 : 0 ≤ h0_length.toInt ∧ h0_length.toInt ≤ 600 ∧ 0 ≤ v73.toInt ∧ v73.toInt ≤ 600 ∧ 0 ≤ v75.toInt ∧ v75.toInt ≤ 600 := hp78
      obtain ⟨f79, f80, f81, f82, f83, f84⟩ := hp78
      refine lv_iload_n hx hb dX7_passNumber_55 rfl (lv_at hl 0 rfl) ?_
      exact y_iret ((v65, v66, v73, v74, v75, v76) : Int32 × Int32 × Int32 × Int32 × Int32 × Int32) hx hb hr hlocks hK hP hD hS hAe hQ rfl ⟨(show 0 ≤ h0_length.toInt from by omega), (show h0_length.toInt ≤ 600 from by omega), (show 0 ≤ v73.toInt from by omega), (show v73.toInt ≤ 600 from by omega), (show 0 ≤ v75.toInt from by omega), (show v75.toInt ≤ 600 from by omega), (show p1.toInt ≤ h0_value.toInt from by omega), (show h0_value.toInt ≤ p2.toInt from by omega)⟩ dX7_passNumber_56
    · have f71 : ¬ v65.toInt = 0 := z_ne rfl (show Int32.toInt 0 = 0 from by decide) c_70
      refine lv_iload_n hx hb dX7_passNumber_44 rfl (lv_at hl 1 rfl) ?_
      exact y_iret ((v65, v66, h0_next, h0_kind, h0_start, h0_value) : Int32 × Int32 × Int32 × Int32 × Int32 × Int32) hx hb hr hlocks hK hP hD hS hAe hQ rfl ⟨(show 0 ≤ h0_length.toInt from by omega), (show h0_length.toInt ≤ 600 from by omega), (show 0 ≤ h0_next.toInt from by omega), (show h0_next.toInt ≤ 600 from by omega), (show 0 ≤ h0_start.toInt from by omega), (show h0_start.toInt ≤ 600 from by omega), (show p1.toInt ≤ p1.toInt from by omega), (show p1.toInt ≤ p2.toInt from by omega)⟩ dX7_passNumber_45
set_option maxHeartbeats 8000000 in
set_option maxRecDepth 100000 in
theorem k_X7_passPart (l : Launch) (dC : Nat → ClassId) (dI : Nat → Nat → Nat) (cB cI cJ cZ cP cQ : ClassId) (adK adV : Nat → Nat) (q0 : Option Nat) (h0 : Nat) (h0_text : Nat) (sz : Nat) (h0_length : Int32) (h0_fault : Int32) (h0_place : Int32) (h0_next : Int32) (h0_kind : Int32) (h0_start : Int32) (h0_value : Int32) (h0_text_f : Nat → Int32) (e0 : 0 ≤ h0_length.toInt) (e1 : h0_length.toInt ≤ 600) (e2 : 0 ≤ h0_next.toInt) (e3 : h0_next.toInt ≤ 600) (e4 : 0 ≤ h0_start.toInt) (e5 : h0_start.toInt ≤ 600) : Met l yX7_passPart wsX7_passPart ({ frames := 6, cells := 0, slots := 0, locals := 183 } : Room) (sPc [.ref h0] (dC, dI) (zT cB cI cJ cZ cP cQ) [(h0, .inr (7, [.ref h0_text, .int h0_length, .int h0_fault, .int h0_place, .int h0_next, .int h0_kind, .int h0_start, .int h0_value])), (h0_text, .inl (cB, 600, .inl h0_text_f))] sz [] [] adK adV q0) (va_Qi (fun (r : Int32) (u : Int32 × Int32 × Int32 × Int32 × Int32 × Int32) => 0 ≤ h0_length.toInt ∧ h0_length.toInt ≤ 600 ∧ 0 ≤ u.2.2.1.toInt ∧ u.2.2.1.toInt ≤ 600 ∧ 0 ≤ u.2.2.2.2.1.toInt ∧ u.2.2.2.2.1.toInt ≤ 600) (zB (dC, dI) (zT cB cI cJ cZ cP cQ) (fun u : Int32 × Int32 × Int32 × Int32 × Int32 × Int32 => [(h0, .inr (7, [.ref h0_text, .int h0_length, .int u.1, .int u.2.1, .int u.2.2.1, .int u.2.2.2.1, .int u.2.2.2.2.1, .int u.2.2.2.2.2])), (h0_text, .inl (cB, 600, .inl h0_text_f))]) [(h0, .inr (7, [.ref h0_text, .int h0_length, .int h0_fault, .int h0_place, .int h0_next, .int h0_kind, .int h0_start, .int h0_value])), (h0_text, .inl (cB, 600, .inl h0_text_f))] sz) (va_A [(h0, .inr (7, [.ref h0_text, .int h0_length, .int h0_fault, .int h0_place, .int h0_next, .int h0_kind, .int h0_start, .int h0_value])), (h0_text, .inl (cB, 600, .inl h0_text_f))] sz)) 0 0 (va_A [(h0, .inr (7, [.ref h0_text, .int h0_length, .int h0_fault, .int h0_place, .int h0_next, .int h0_kind, .int h0_start, .int h0_value])), (h0_text, .inl (cB, 600, .inl h0_text_f))] sz) := by
  refine s_enter (cc := cX7_passPart) (maxL := 2) (ret := (some .int)) (by decide) rfl (Nat.le_of_ble_eq_true rfl) ?_
  intro p e s m below meth c A ls Q H locs hx hb hr hml hown hts hlocks hin hK hP hD hA hX hS hAe hQ hl hE
  have hown : s.vm.findClass RX7 = some m.cls := hown
  have hl : lv_has ls 2 [(0, .ref h0)] := hl
  refine lv_aload_n hx hb dX7_passPart_0 rfl (lv_at hl 0 rfl) ?_
  refine y_fini (w' := fun (u1 : Unit) => [(h0, .inr (7, [.ref h0_text, .int h0_length, .int h0_fault, .int h0_place, .int h0_next, .int h0_kind, .int h0_start, .int h0_value])), (h0_text, .inl (cB, 600, .inl h0_text_f))]) (va_runV (As := []) (rest := []) ⟨hx, hb, hml, hown, hts⟩ (k_X7_partNamed l dC dI cB cI cJ cZ cP cQ adK adV q0 h0 h0_text H.size h0_length h0_fault h0_place h0_next h0_kind h0_start h0_value h0_text_f (show 0 ≤ h0_length.toInt from by omega) (show h0_length.toInt ≤ 600 from by omega) (show 0 ≤ h0_next.toInt from by omega) (show h0_next.toInt ≤ 600 from by omega) (show 0 ≤ h0_start.toInt from by omega) (show h0_start.toInt ≤ 600 from by omega)) (cwV 0 hts gX7_passPart_X7_partNamed rfl rfl rfl ⟨rfl, hd_X7_partNamed⟩ ⟨Nat.le_of_ble_eq_true rfl, Nat.le_of_ble_eq_true rfl⟩) (s_pV (ci := 7) hE hS hA hK hP hD zX_nil [0, 1] (by decide) rfl rfl 0 rfl) rfl rfl hl.1 rfl (lv_room (Nat.le_of_ble_eq_true rfl)) dX7_passPart_1 ⟨Nat.le_of_ble_eq_true rfl, Nat.le_of_ble_eq_true rfl⟩) hP hD hS hA [0, 1] [] [0, 1] rfl rfl (by decide) (by decide) (fun _ => rfl) (by decide) (fun r2 u1 H locs hp3 hP hD hS => ?_)
  have hP : va_P (dC, dI) vwCl [(h0, .inr (7, [.ref h0_text, .int h0_length, .int h0_fault, .int h0_place, .int h0_next, .int h0_kind, .int h0_start, .int h0_value])), (h0_text, .inl (cB, 600, .inl h0_text_f))] H := hP
  have hD : va_D A [(h0, .inr (7, [.ref h0_text, .int h0_length, .int h0_fault, .int h0_place, .int h0_next, .int h0_kind, .int h0_start, .int h0_value])), (h0_text, .inl (cB, 600, .inl h0_text_f))] := hD
  have hp3 : (r2 = (-1) ∧ ((¬ h0_kind.toInt = 1 ∨ h0_kind.toInt = 1 ∨ h0_kind.toInt = 1) ∧ (¬ h0_kind.toInt = 1 ∨ h0_kind.toInt = 1 ∨ h0_kind.toInt = 1) ∧ (¬ h0_kind.toInt = 1 ∨ h0_kind.toInt = 1 ∨ h0_kind.toInt = 1) ∧ (¬ h0_kind.toInt = 1 ∨ h0_kind.toInt = 1 ∨ h0_kind.toInt = 1) ∧ (¬ h0_kind.toInt = 1 ∨ h0_kind.toInt = 1 ∨ h0_kind.toInt = 1))) ∨ (r2 = 1004 ∧ ((¬ h0_kind.toInt = 1 ∨ h0_kind.toInt = 1 ∨ h0_kind.toInt = 1) ∧ (¬ h0_kind.toInt = 1 ∨ h0_kind.toInt = 1 ∨ h0_kind.toInt = 1) ∧ (¬ h0_kind.toInt = 1 ∨ h0_kind.toInt = 1 ∨ h0_kind.toInt = 1) ∧ (¬ h0_kind.toInt = 1 ∨ h0_kind.toInt = 1 ∨ h0_kind.toInt = 1) ∧ h0_kind.toInt = 1)) ∨ (r2 = 1003 ∧ ((¬ h0_kind.toInt = 1 ∨ h0_kind.toInt = 1 ∨ h0_kind.toInt = 1) ∧ (¬ h0_kind.toInt = 1 ∨ h0_kind.toInt = 1 ∨ h0_kind.toInt = 1) ∧ (¬ h0_kind.toInt = 1 ∨ h0_kind.toInt = 1 ∨ h0_kind.toInt = 1) ∧ h0_kind.toInt = 1)) ∨ (r2 = 1002 ∧ ((¬ h0_kind.toInt = 1 ∨ h0_kind.toInt = 1 ∨ h0_kind.toInt = 1) ∧ (¬ h0_kind.toInt = 1 ∨ h0_kind.toInt = 1 ∨ h0_kind.toInt = 1) ∧ h0_kind.toInt = 1)) ∨ (r2 = 1001 ∧ ((¬ h0_kind.toInt = 1 ∨ h0_kind.toInt = 1 ∨ h0_kind.toInt = 1) ∧ h0_kind.toInt = 1)) ∨ (r2 = 1000 ∧ h0_kind.toInt = 1) := hp3
  rcases hp3 with f4 | f5 | f6 | f7 | f8 | f9
  · obtain ⟨rfl, f4⟩ := f4
    refine lv_istore_n (lv' := [(1, .int (-1)), (0, .ref h0)]) hx hb dX7_passPart_4 rfl hl (by decide) rfl (fun ls hl => ?_)
    refine lv_iload_n hx hb dX7_passPart_5 rfl (lv_at hl 0 rfl) ?_
    refine lv_iconst (v := (-1)) hx hb dX7_passPart_6 (by decide) ?_
    refine lv_icmp_ne (tgt := 19) hx hb dX7_passPart_7 (by decide) (fun c => absurd (by decide) c) (fun _ => ?_)
    refine lv_aload_n hx hb dX7_passPart_10 rfl (lv_at hl 1 rfl) ?_
    refine lv_iconst (v := 0) hx hb dX7_passPart_11 (by decide) ?_
    refine lv_sipush (v := 999) hx hb dX7_passPart_12 (by decide) ?_
    refine y_fini (w' := fun (u10 : Int32 × Int32 × Int32 × Int32 × Int32 × Int32) => [(h0, .inr (7, [.ref h0_text, .int h0_length, .int u10.1, .int u10.2.1, .int u10.2.2.1, .int u10.2.2.2.1, .int u10.2.2.2.2.1, .int u10.2.2.2.2.2])), (h0_text, .inl (cB, 600, .inl h0_text_f))]) (va_runV (As := [.int 0, .int 999]) (rest := []) ⟨hx, hb, hml, hown, hts⟩ (k_X7_passNumber l dC dI cB cI cJ cZ cP cQ h0 h0_text H.size 0 999 h0_length h0_fault h0_place h0_next h0_kind h0_start h0_value h0_text_f (show 0 ≤ h0_length.toInt from by omega) (show h0_length.toInt ≤ 600 from by omega) (show 0 ≤ h0_next.toInt from by omega) (show h0_next.toInt ≤ 600 from by omega) (show 0 ≤ h0_start.toInt from by omega) (show h0_start.toInt ≤ 600 from by omega) (show (0 : Int) ≤ (999 : Int) from by omega)) (cwV 2 hts gX7_passPart_X7_passNumber rfl rfl rfl ⟨rfl, hd_X7_passNumber⟩ ⟨Nat.le_of_ble_eq_true rfl, Nat.le_of_ble_eq_true rfl⟩) (z_pV (ci := 7) hK hP hD zX_nil [0, 1] (by decide) rfl rfl 0 rfl) rfl rfl hl.1 rfl (lv_room (Nat.le_of_ble_eq_true rfl)) dX7_passPart_15 ⟨Nat.le_of_ble_eq_true rfl, Nat.le_of_ble_eq_true rfl⟩) hP hD hS hA [0, 1] [] [0, 1] rfl rfl (by decide) (by decide) (fun _ => rfl) (by decide) (fun r17 u10 H locs hp18 hP hD hS => ?_)
    obtain ⟨v11, v12, v13, v14, v15, v16⟩ := u10
    have hP : va_P (dC, dI) vwCl [(h0, .inr (7, [.ref h0_text, .int h0_length, .int v11, .int v12, .int v13, .int v14, .int v15, .int v16])), (h0_text, .inl (cB, 600, .inl h0_text_f))] H := hP
    have hD : va_D A [(h0, .inr (7, [.ref h0_text, .int h0_length, .int v11, .int v12, .int v13, .int v14, .int v15, .int v16])), (h0_text, .inl (cB, 600, .inl h0_text_f))] := hD
    have hp18 : 0 ≤ h0_length.toInt ∧ h0_length.toInt ≤ 600 ∧ 0 ≤ v13.toInt ∧ v13.toInt ≤ 600 ∧ 0 ≤ v15.toInt ∧ v15.toInt ≤ 600 ∧ (0 : Int) ≤ r17.toInt ∧ r17.toInt ≤ (999 : Int) := hp18
    obtain ⟨f19, f20, f21, f22, f23, f24, f25, f26⟩ := hp18
    exact y_iret ((v11, v12, v13, v14, v15, v16) : Int32 × Int32 × Int32 × Int32 × Int32 × Int32) hx hb hr hlocks hK hP hD hS hAe hQ rfl ⟨(show 0 ≤ h0_length.toInt from by omega), (show h0_length.toInt ≤ 600 from by omega), (show 0 ≤ v13.toInt from by omega), (show v13.toInt ≤ 600 from by omega), (show 0 ≤ v15.toInt from by omega), (show v15.toInt ≤ 600 from by omega)⟩ dX7_passPart_18
  · obtain ⟨rfl, f5⟩ := f5
    refine lv_istore_n (lv' := [(1, .int 1004), (0, .ref h0)]) hx hb dX7_passPart_4 rfl hl (by decide) rfl (fun ls hl => ?_)
    refine lv_iload_n hx hb dX7_passPart_5 rfl (lv_at hl 0 rfl) ?_
    refine lv_iconst (v := (-1)) hx hb dX7_passPart_6 (by decide) ?_
    refine lv_icmp_ne (tgt := 19) hx hb dX7_passPart_7 (by decide) (fun _ => ?_) (fun c => absurd c (by decide))
    refine lv_aload_n hx hb dX7_passPart_19 rfl (lv_at hl 1 rfl) ?_
    refine y_finv (w' := fun (u27 : Int32 × Int32 × Int32 × Int32) => [(h0, .inr (7, [.ref h0_text, .int h0_length, .int h0_fault, .int h0_place, .int u27.1, .int u27.2.1, .int u27.2.2.1, .int u27.2.2.2])), (h0_text, .inl (cB, 600, .inl h0_text_f))]) (va_runV (As := []) (rest := []) ⟨hx, hb, hml, hown, hts⟩ (k_X7_step l dC dI cB cI cJ cZ cP cQ h0 h0_text H.size h0_length h0_fault h0_place h0_next h0_kind h0_start h0_value h0_text_f (show 0 ≤ h0_length.toInt from by omega) (show h0_length.toInt ≤ 600 from by omega) (show 0 ≤ h0_next.toInt from by omega) (show h0_next.toInt ≤ 600 from by omega) (show 0 ≤ h0_start.toInt from by omega) (show h0_start.toInt ≤ 600 from by omega)) (cwV 0 hts gX7_passPart_X7_step rfl rfl rfl ⟨rfl, hd_X7_step⟩ ⟨Nat.le_of_ble_eq_true rfl, Nat.le_of_ble_eq_true rfl⟩) (z_pV (ci := 7) hK hP hD zX_nil [0, 1] (by decide) rfl rfl 0 rfl) rfl rfl hl.1 rfl (lv_room (Nat.le_of_ble_eq_true rfl)) dX7_passPart_20 ⟨Nat.le_of_ble_eq_true rfl, Nat.le_of_ble_eq_true rfl⟩) hP hD hS hA [0, 1] [] [0, 1] rfl rfl (by decide) (by decide) (fun _ => rfl) (by decide) (fun u27 H locs hp33 hP hD hS => ?_)
    obtain ⟨v28, v29, v30, v31⟩ := u27
    have hP : va_P (dC, dI) vwCl [(h0, .inr (7, [.ref h0_text, .int h0_length, .int h0_fault, .int h0_place, .int v28, .int v29, .int v30, .int v31])), (h0_text, .inl (cB, 600, .inl h0_text_f))] H := hP
    have hD : va_D A [(h0, .inr (7, [.ref h0_text, .int h0_length, .int h0_fault, .int h0_place, .int v28, .int v29, .int v30, .int v31])), (h0_text, .inl (cB, 600, .inl h0_text_f))] := hD
    have hp33 : 0 ≤ h0_length.toInt ∧ h0_length.toInt ≤ 600 ∧ 0 ≤ v28.toInt ∧ v28.toInt ≤ 600 ∧ 0 ≤ v30.toInt ∧ v30.toInt ≤ 600 := hp33
    obtain ⟨f34, f35, f36, f37, f38, f39⟩ := hp33
    refine lv_iload_n hx hb dX7_passPart_23 rfl (lv_at hl 0 rfl) ?_
    exact y_iret ((h0_fault, h0_place, v28, v29, v30, v31) : Int32 × Int32 × Int32 × Int32 × Int32 × Int32) hx hb hr hlocks hK hP hD hS hAe hQ rfl ⟨(show 0 ≤ h0_length.toInt from by omega), (show h0_length.toInt ≤ 600 from by omega), (show 0 ≤ v28.toInt from by omega), (show v28.toInt ≤ 600 from by omega), (show 0 ≤ v30.toInt from by omega), (show v30.toInt ≤ 600 from by omega)⟩ dX7_passPart_24
  · obtain ⟨rfl, f6⟩ := f6
    refine lv_istore_n (lv' := [(1, .int 1003), (0, .ref h0)]) hx hb dX7_passPart_4 rfl hl (by decide) rfl (fun ls hl => ?_)
    refine lv_iload_n hx hb dX7_passPart_5 rfl (lv_at hl 0 rfl) ?_
    refine lv_iconst (v := (-1)) hx hb dX7_passPart_6 (by decide) ?_
    refine lv_icmp_ne (tgt := 19) hx hb dX7_passPart_7 (by decide) (fun _ => ?_) (fun c => absurd c (by decide))
    refine lv_aload_n hx hb dX7_passPart_19 rfl (lv_at hl 1 rfl) ?_
    refine y_finv (w' := fun (u40 : Int32 × Int32 × Int32 × Int32) => [(h0, .inr (7, [.ref h0_text, .int h0_length, .int h0_fault, .int h0_place, .int u40.1, .int u40.2.1, .int u40.2.2.1, .int u40.2.2.2])), (h0_text, .inl (cB, 600, .inl h0_text_f))]) (va_runV (As := []) (rest := []) ⟨hx, hb, hml, hown, hts⟩ (k_X7_step l dC dI cB cI cJ cZ cP cQ h0 h0_text H.size h0_length h0_fault h0_place h0_next h0_kind h0_start h0_value h0_text_f (show 0 ≤ h0_length.toInt from by omega) (show h0_length.toInt ≤ 600 from by omega) (show 0 ≤ h0_next.toInt from by omega) (show h0_next.toInt ≤ 600 from by omega) (show 0 ≤ h0_start.toInt from by omega) (show h0_start.toInt ≤ 600 from by omega)) (cwV 0 hts gX7_passPart_X7_step rfl rfl rfl ⟨rfl, hd_X7_step⟩ ⟨Nat.le_of_ble_eq_true rfl, Nat.le_of_ble_eq_true rfl⟩) (z_pV (ci := 7) hK hP hD zX_nil [0, 1] (by decide) rfl rfl 0 rfl) rfl rfl hl.1 rfl (lv_room (Nat.le_of_ble_eq_true rfl)) dX7_passPart_20 ⟨Nat.le_of_ble_eq_true rfl, Nat.le_of_ble_eq_true rfl⟩) hP hD hS hA [0, 1] [] [0, 1] rfl rfl (by decide) (by decide) (fun _ => rfl) (by decide) (fun u40 H locs hp46 hP hD hS => ?_)
    obtain ⟨v41, v42, v43, v44⟩ := u40
    have hP : va_P (dC, dI) vwCl [(h0, .inr (7, [.ref h0_text, .int h0_length, .int h0_fault, .int h0_place, .int v41, .int v42, .int v43, .int v44])), (h0_text, .inl (cB, 600, .inl h0_text_f))] H := hP
    have hD : va_D A [(h0, .inr (7, [.ref h0_text, .int h0_length, .int h0_fault, .int h0_place, .int v41, .int v42, .int v43, .int v44])), (h0_text, .inl (cB, 600, .inl h0_text_f))] := hD
    have hp46 : 0 ≤ h0_length.toInt ∧ h0_length.toInt ≤ 600 ∧ 0 ≤ v41.toInt ∧ v41.toInt ≤ 600 ∧ 0 ≤ v43.toInt ∧ v43.toInt ≤ 600 := hp46
    obtain ⟨f47, f48, f49, f50, f51, f52⟩ := hp46
    refine lv_iload_n hx hb dX7_passPart_23 rfl (lv_at hl 0 rfl) ?_
    exact y_iret ((h0_fault, h0_place, v41, v42, v43, v44) : Int32 × Int32 × Int32 × Int32 × Int32 × Int32) hx hb hr hlocks hK hP hD hS hAe hQ rfl ⟨(show 0 ≤ h0_length.toInt from by omega), (show h0_length.toInt ≤ 600 from by omega), (show 0 ≤ v41.toInt from by omega), (show v41.toInt ≤ 600 from by omega), (show 0 ≤ v43.toInt from by omega), (show v43.toInt ≤ 600 from by omega)⟩ dX7_passPart_24
  · obtain ⟨rfl, f7⟩ := f7
    refine lv_istore_n (lv' := [(1, .int 1002), (0, .ref h0)]) hx hb dX7_passPart_4 rfl hl (by decide) rfl (fun ls hl => ?_)
    refine lv_iload_n hx hb dX7_passPart_5 rfl (lv_at hl 0 rfl) ?_
    refine lv_iconst (v := (-1)) hx hb dX7_passPart_6 (by decide) ?_
    refine lv_icmp_ne (tgt := 19) hx hb dX7_passPart_7 (by decide) (fun _ => ?_) (fun c => absurd c (by decide))
    refine lv_aload_n hx hb dX7_passPart_19 rfl (lv_at hl 1 rfl) ?_
    refine y_finv (w' := fun (u53 : Int32 × Int32 × Int32 × Int32) => [(h0, .inr (7, [.ref h0_text, .int h0_length, .int h0_fault, .int h0_place, .int u53.1, .int u53.2.1, .int u53.2.2.1, .int u53.2.2.2])), (h0_text, .inl (cB, 600, .inl h0_text_f))]) (va_runV (As := []) (rest := []) ⟨hx, hb, hml, hown, hts⟩ (k_X7_step l dC dI cB cI cJ cZ cP cQ h0 h0_text H.size h0_length h0_fault h0_place h0_next h0_kind h0_start h0_value h0_text_f (show 0 ≤ h0_length.toInt from by omega) (show h0_length.toInt ≤ 600 from by omega) (show 0 ≤ h0_next.toInt from by omega) (show h0_next.toInt ≤ 600 from by omega) (show 0 ≤ h0_start.toInt from by omega) (show h0_start.toInt ≤ 600 from by omega)) (cwV 0 hts gX7_passPart_X7_step rfl rfl rfl ⟨rfl, hd_X7_step⟩ ⟨Nat.le_of_ble_eq_true rfl, Nat.le_of_ble_eq_true rfl⟩) (z_pV (ci := 7) hK hP hD zX_nil [0, 1] (by decide) rfl rfl 0 rfl) rfl rfl hl.1 rfl (lv_room (Nat.le_of_ble_eq_true rfl)) dX7_passPart_20 ⟨Nat.le_of_ble_eq_true rfl, Nat.le_of_ble_eq_true rfl⟩) hP hD hS hA [0, 1] [] [0, 1] rfl rfl (by decide) (by decide) (fun _ => rfl) (by decide) (fun u53 H locs hp59 hP hD hS => ?_)
    obtain ⟨v54, v55, v56, v57⟩ := u53
    have hP : va_P (dC, dI) vwCl [(h0, .inr (7, [.ref h0_text, .int h0_length, .int h0_fault, .int h0_place, .int v54, .int v55, .int v56, .int v57])), (h0_text, .inl (cB, 600, .inl h0_text_f))] H := hP
    have hD : va_D A [(h0, .inr (7, [.ref h0_text, .int h0_length, .int h0_fault, .int h0_place, .int v54, .int v55, .int v56, .int v57])), (h0_text, .inl (cB, 600, .inl h0_text_f))] := hD
    have hp59 : 0 ≤ h0_length.toInt ∧ h0_length.toInt ≤ 600 ∧ 0 ≤ v54.toInt ∧ v54.toInt ≤ 600 ∧ 0 ≤ v56.toInt ∧ v56.toInt ≤ 600 := hp59
    obtain ⟨f60, f61, f62, f63, f64, f65⟩ := hp59
    refine lv_iload_n hx hb dX7_passPart_23 rfl (lv_at hl 0 rfl) ?_
    exact y_iret ((h0_fault, h0_place, v54, v55, v56, v57) : Int32 × Int32 × Int32 × Int32 × Int32 × Int32) hx hb hr hlocks hK hP hD hS hAe hQ rfl ⟨(show 0 ≤ h0_length.toInt from by omega), (show h0_length.toInt ≤ 600 from by omega), (show 0 ≤ v54.toInt from by omega), (show v54.toInt ≤ 600 from by omega), (show 0 ≤ v56.toInt from by omega), (show v56.toInt ≤ 600 from by omega)⟩ dX7_passPart_24
  · obtain ⟨rfl, f8⟩ := f8
    refine lv_istore_n (lv' := [(1, .int 1001), (0, .ref h0)]) hx hb dX7_passPart_4 rfl hl (by decide) rfl (fun ls hl => ?_)
    refine lv_iload_n hx hb dX7_passPart_5 rfl (lv_at hl 0 rfl) ?_
    refine lv_iconst (v := (-1)) hx hb dX7_passPart_6 (by decide) ?_
    refine lv_icmp_ne (tgt := 19) hx hb dX7_passPart_7 (by decide) (fun _ => ?_) (fun c => absurd c (by decide))
    refine lv_aload_n hx hb dX7_passPart_19 rfl (lv_at hl 1 rfl) ?_
    refine y_finv (w' := fun (u66 : Int32 × Int32 × Int32 × Int32) => [(h0, .inr (7, [.ref h0_text, .int h0_length, .int h0_fault, .int h0_place, .int u66.1, .int u66.2.1, .int u66.2.2.1, .int u66.2.2.2])), (h0_text, .inl (cB, 600, .inl h0_text_f))]) (va_runV (As := []) (rest := []) ⟨hx, hb, hml, hown, hts⟩ (k_X7_step l dC dI cB cI cJ cZ cP cQ h0 h0_text H.size h0_length h0_fault h0_place h0_next h0_kind h0_start h0_value h0_text_f (show 0 ≤ h0_length.toInt from by omega) (show h0_length.toInt ≤ 600 from by omega) (show 0 ≤ h0_next.toInt from by omega) (show h0_next.toInt ≤ 600 from by omega) (show 0 ≤ h0_start.toInt from by omega) (show h0_start.toInt ≤ 600 from by omega)) (cwV 0 hts gX7_passPart_X7_step rfl rfl rfl ⟨rfl, hd_X7_step⟩ ⟨Nat.le_of_ble_eq_true rfl, Nat.le_of_ble_eq_true rfl⟩) (z_pV (ci := 7) hK hP hD zX_nil [0, 1] (by decide) rfl rfl 0 rfl) rfl rfl hl.1 rfl (lv_room (Nat.le_of_ble_eq_true rfl)) dX7_passPart_20 ⟨Nat.le_of_ble_eq_true rfl, Nat.le_of_ble_eq_true rfl⟩) hP hD hS hA [0, 1] [] [0, 1] rfl rfl (by decide) (by decide) (fun _ => rfl) (by decide) (fun u66 H locs hp72 hP hD hS => ?_)
    obtain ⟨v67, v68, v69, v70⟩ := u66
    have hP : va_P (dC, dI) vwCl [(h0, .inr (7, [.ref h0_text, .int h0_length, .int h0_fault, .int h0_place, .int v67, .int v68, .int v69, .int v70])), (h0_text, .inl (cB, 600, .inl h0_text_f))] H := hP
    have hD : va_D A [(h0, .inr (7, [.ref h0_text, .int h0_length, .int h0_fault, .int h0_place, .int v67, .int v68, .int v69, .int v70])), (h0_text, .inl (cB, 600, .inl h0_text_f))] := hD
    have hp72 : 0 ≤ h0_length.toInt ∧ h0_length.toInt ≤ 600 ∧ 0 ≤ v67.toInt ∧ v67.toInt ≤ 600 ∧ 0 ≤ v69.toInt ∧ v69.toInt ≤ 600 := hp72
    obtain ⟨f73, f74, f75, f76, f77, f78⟩ := hp72
    refine lv_iload_n hx hb dX7_passPart_23 rfl (lv_at hl 0 rfl) ?_
    exact y_iret ((h0_fault, h0_place, v67, v68, v69, v70) : Int32 × Int32 × Int32 × Int32 × Int32 × Int32) hx hb hr hlocks hK hP hD hS hAe hQ rfl ⟨(show 0 ≤ h0_length.toInt from by omega), (show h0_length.toInt ≤ 600 from by omega), (show 0 ≤ v67.toInt from by omega), (show v67.toInt ≤ 600 from by omega), (show 0 ≤ v69.toInt from by omega), (show v69.toInt ≤ 600 from by omega)⟩ dX7_passPart_24
  · obtain ⟨rfl, f9⟩ := f9
    refine lv_istore_n (lv' := [(1, .int 1000), (0, .ref h0)]) hx hb dX7_passPart_4 rfl hl (by decide) rfl (fun ls hl => ?_)
    refine lv_iload_n hx hb dX7_passPart_5 rfl (lv_at hl 0 rfl) ?_
    refine lv_iconst (v := (-1)) hx hb dX7_passPart_6 (by decide) ?_
    refine lv_icmp_ne (tgt := 19) hx hb dX7_passPart_7 (by decide) (fun _ => ?_) (fun c => absurd c (by decide))
    refine lv_aload_n hx hb dX7_passPart_19 rfl (lv_at hl 1 rfl) ?_
    refine y_finv (w' := fun (u79 : Int32 × Int32 × Int32 × Int32) => [(h0, .inr (7, [.ref h0_text, .int h0_length, .int h0_fault, .int h0_place, .int u79.1, .int u79.2.1, .int u79.2.2.1, .int u79.2.2.2])), (h0_text, .inl (cB, 600, .inl h0_text_f))]) (va_runV (As := []) (rest := []) ⟨hx, hb, hml, hown, hts⟩ (k_X7_step l dC dI cB cI cJ cZ cP cQ h0 h0_text H.size h0_length h0_fault h0_place h0_next h0_kind h0_start h0_value h0_text_f (show 0 ≤ h0_length.toInt from by omega) (show h0_length.toInt ≤ 600 from by omega) (show 0 ≤ h0_next.toInt from by omega) (show h0_next.toInt ≤ 600 from by omega) (show 0 ≤ h0_start.toInt from by omega) (show h0_start.toInt ≤ 600 from by omega)) (cwV 0 hts gX7_passPart_X7_step rfl rfl rfl ⟨rfl, hd_X7_step⟩ ⟨Nat.le_of_ble_eq_true rfl, Nat.le_of_ble_eq_true rfl⟩) (z_pV (ci := 7) hK hP hD zX_nil [0, 1] (by decide) rfl rfl 0 rfl) rfl rfl hl.1 rfl (lv_room (Nat.le_of_ble_eq_true rfl)) dX7_passPart_20 ⟨Nat.le_of_ble_eq_true rfl, Nat.le_of_ble_eq_true rfl⟩) hP hD hS hA [0, 1] [] [0, 1] rfl rfl (by decide) (by decide) (fun _ => rfl) (by decide) (fun u79 H locs hp85 hP hD hS => ?_)
    obtain ⟨v80, v81, v82, v83⟩ := u79
    have hP : va_P (dC, dI) vwCl [(h0, .inr (7, [.ref h0_text, .int h0_length, .int h0_fault, .int h0_place, .int v80, .int v81, .int v82, .int v83])), (h0_text, .inl (cB, 600, .inl h0_text_f))] H := hP
    have hD : va_D A [(h0, .inr (7, [.ref h0_text, .int h0_length, .int h0_fault, .int h0_place, .int v80, .int v81, .int v82, .int v83])), (h0_text, .inl (cB, 600, .inl h0_text_f))] := hD
    have hp85 : 0 ≤ h0_length.toInt ∧ h0_length.toInt ≤ 600 ∧ 0 ≤ v80.toInt ∧ v80.toInt ≤ 600 ∧ 0 ≤ v82.toInt ∧ v82.toInt ≤ 600 := hp85
    obtain ⟨f86, f87, f88, f89, f90, f91⟩ := hp85
    refine lv_iload_n hx hb dX7_passPart_23 rfl (lv_at hl 0 rfl) ?_
    exact y_iret ((h0_fault, h0_place, v80, v81, v82, v83) : Int32 × Int32 × Int32 × Int32 × Int32 × Int32) hx hb hr hlocks hK hP hD hS hAe hQ rfl ⟨(show 0 ≤ h0_length.toInt from by omega), (show h0_length.toInt ≤ 600 from by omega), (show 0 ≤ v80.toInt from by omega), (show v80.toInt ≤ 600 from by omega), (show 0 ≤ v82.toInt from by omega), (show v82.toInt ≤ 600 from by omega)⟩ dX7_passPart_24
set_option maxHeartbeats 8000000 in
set_option maxRecDepth 100000 in
theorem k_X7_passSemicolon (l : Launch) (dC : Nat → ClassId) (dI : Nat → Nat → Nat) (cB cI cJ cZ cP cQ : ClassId) (h0 : Nat) (h0_text : Nat) (sz : Nat) (h0_length : Int32) (h0_fault : Int32) (h0_place : Int32) (h0_next : Int32) (h0_kind : Int32) (h0_start : Int32) (h0_value : Int32) (h0_text_f : Nat → Int32) (e0 : 0 ≤ h0_length.toInt) (e1 : h0_length.toInt ≤ 600) (e2 : 0 ≤ h0_next.toInt) (e3 : h0_next.toInt ≤ 600) (e4 : 0 ≤ h0_start.toInt) (e5 : h0_start.toInt ≤ 600) : Met l yX7_passSemicolon wsX7_passSemicolon ({ frames := 2, cells := 0, slots := 0, locals := 60 } : Room) (zPc [.ref h0] (dC, dI) (zT cB cI cJ cZ cP cQ) [(h0, .inr (7, [.ref h0_text, .int h0_length, .int h0_fault, .int h0_place, .int h0_next, .int h0_kind, .int h0_start, .int h0_value])), (h0_text, .inl (cB, 600, .inl h0_text_f))] sz [] []) (va_Qv (fun (u : Int32 × Int32 × Int32 × Int32 × Int32 × Int32) => 0 ≤ h0_length.toInt ∧ h0_length.toInt ≤ 600 ∧ 0 ≤ u.2.2.1.toInt ∧ u.2.2.1.toInt ≤ 600 ∧ 0 ≤ u.2.2.2.2.1.toInt ∧ u.2.2.2.2.1.toInt ≤ 600) (zB (dC, dI) (zT cB cI cJ cZ cP cQ) (fun u : Int32 × Int32 × Int32 × Int32 × Int32 × Int32 => [(h0, .inr (7, [.ref h0_text, .int h0_length, .int u.1, .int u.2.1, .int u.2.2.1, .int u.2.2.2.1, .int u.2.2.2.2.1, .int u.2.2.2.2.2])), (h0_text, .inl (cB, 600, .inl h0_text_f))]) [(h0, .inr (7, [.ref h0_text, .int h0_length, .int h0_fault, .int h0_place, .int h0_next, .int h0_kind, .int h0_start, .int h0_value])), (h0_text, .inl (cB, 600, .inl h0_text_f))] sz) (va_A [(h0, .inr (7, [.ref h0_text, .int h0_length, .int h0_fault, .int h0_place, .int h0_next, .int h0_kind, .int h0_start, .int h0_value])), (h0_text, .inl (cB, 600, .inl h0_text_f))] sz)) 0 0 (va_A [(h0, .inr (7, [.ref h0_text, .int h0_length, .int h0_fault, .int h0_place, .int h0_next, .int h0_kind, .int h0_start, .int h0_value])), (h0_text, .inl (cB, 600, .inl h0_text_f))] sz) := by
  refine z_enter (cc := cX7_passSemicolon) (maxL := 1) (ret := none) (by decide) rfl (Nat.le_of_ble_eq_true rfl) ?_
  intro p e s m below meth c A ls Q H locs hx hb hr hml hown hts hlocks hin hK hP hD hA hX hS hAe hQ hl
  have hown : s.vm.findClass RX7 = some m.cls := hown
  have hi7 : ∀ w ∈ wsX70, w ∈ wsX7_passSemicolon := fun w h => List.mem_cons_of_mem _ (List.mem_append_right _ h)
  have hk0 := hts (.fieldLink RX7 36 "MonthPush$Tape" "kind" "I") (List.mem_of_getElem? (i := 1) rfl)
  have hk1 := hts (.fieldLink RX7 22 "MonthPush$Tape" "fault" "I") (List.mem_of_getElem? (i := 2) rfl)
  have hl : lv_has ls 1 [(0, .ref h0)] := hl
  refine lv_aload_n hx hb dX7_passSemicolon_0 rfl (lv_at hl 0 rfl) ?_
  refine va_get (D := (dC, dI)) (ci := 7) (v := .int h0_kind) (C := RX7) (T := TX7) (N := 8) hx hb hts hi7 hown hK hP 0 rfl rfl 5 (by decide) hk0 (fun _ h9 => h9) rfl dX7_passSemicolon_1 ?_
  refine lv_iconst (v := 3) hx hb dX7_passSemicolon_4 (by decide) ?_
  refine lv_icmp_eq (tgt := 13) hx hb dX7_passSemicolon_5 (by decide) (fun c_1 => ?_) (fun c_1 => ?_)
  · have f2 : h0_kind.toInt = 3 := z_eq rfl (show Int32.toInt 3 = 3 from by decide) c_1
    refine lv_aload_n hx hb dX7_passSemicolon_13 rfl (lv_at hl 0 rfl) ?_
    refine va_get (D := (dC, dI)) (ci := 7) (v := .int h0_fault) (C := RX7) (T := TX7) (N := 8) hx hb hts hi7 hown hK hP 0 rfl rfl 2 (by decide) hk1 (fun _ h9 => h9) rfl dX7_passSemicolon_14 ?_
    refine lv_if_ne (tgt := 24) hx hb dX7_passSemicolon_17 (by decide) (fun c_3 => ?_) (fun c_3 => ?_)
    · have f4 : ¬ h0_fault.toInt = 0 := z_ne rfl (show Int32.toInt 0 = 0 from by decide) c_3
      exact y_vret ((h0_fault, h0_place, h0_next, h0_kind, h0_start, h0_value) : Int32 × Int32 × Int32 × Int32 × Int32 × Int32) hx hb hr hlocks hK hP hD hS hAe hQ rfl ⟨(show 0 ≤ h0_length.toInt from by omega), (show h0_length.toInt ≤ 600 from by omega), (show 0 ≤ h0_next.toInt from by omega), (show h0_next.toInt ≤ 600 from by omega), (show 0 ≤ h0_start.toInt from by omega), (show h0_start.toInt ≤ 600 from by omega)⟩ dX7_passSemicolon_24
    · have f4 : h0_fault.toInt = 0 := z_eq rfl (show Int32.toInt 0 = 0 from by decide) c_3
      refine lv_aload_n hx hb dX7_passSemicolon_20 rfl (lv_at hl 0 rfl) ?_
      refine y_finv (w' := fun (u5 : Int32 × Int32 × Int32 × Int32) => [(h0, .inr (7, [.ref h0_text, .int h0_length, .int h0_fault, .int h0_place, .int u5.1, .int u5.2.1, .int u5.2.2.1, .int u5.2.2.2])), (h0_text, .inl (cB, 600, .inl h0_text_f))]) (va_runV (As := []) (rest := []) ⟨hx, hb, hml, hown, hts⟩ (k_X7_step l dC dI cB cI cJ cZ cP cQ h0 h0_text H.size h0_length h0_fault h0_place h0_next h0_kind h0_start h0_value h0_text_f (show 0 ≤ h0_length.toInt from by omega) (show h0_length.toInt ≤ 600 from by omega) (show 0 ≤ h0_next.toInt from by omega) (show h0_next.toInt ≤ 600 from by omega) (show 0 ≤ h0_start.toInt from by omega) (show h0_start.toInt ≤ 600 from by omega)) (cwV 0 hts gX7_passSemicolon_X7_step rfl rfl rfl ⟨rfl, hd_X7_step⟩ ⟨Nat.le_of_ble_eq_true rfl, Nat.le_of_ble_eq_true rfl⟩) (z_pV (ci := 7) hK hP hD zX_nil [0, 1] (by decide) rfl rfl 0 rfl) rfl rfl hl.1 rfl (lv_room (Nat.le_of_ble_eq_true rfl)) dX7_passSemicolon_21 ⟨Nat.le_of_ble_eq_true rfl, Nat.le_of_ble_eq_true rfl⟩) hP hD hS hA [0, 1] [] [0, 1] rfl rfl (by decide) (by decide) (fun _ => rfl) (by decide) (fun u5 H locs hp11 hP hD hS => ?_)
      obtain ⟨v6, v7, v8, v9⟩ := u5
      have hP : va_P (dC, dI) vwCl [(h0, .inr (7, [.ref h0_text, .int h0_length, .int h0_fault, .int h0_place, .int v6, .int v7, .int v8, .int v9])), (h0_text, .inl (cB, 600, .inl h0_text_f))] H := hP
      have hD : va_D A [(h0, .inr (7, [.ref h0_text, .int h0_length, .int h0_fault, .int h0_place, .int v6, .int v7, .int v8, .int v9])), (h0_text, .inl (cB, 600, .inl h0_text_f))] := hD
      have hp11 : 0 ≤ h0_length.toInt ∧ h0_length.toInt ≤ 600 ∧ 0 ≤ v6.toInt ∧ v6.toInt ≤ 600 ∧ 0 ≤ v8.toInt ∧ v8.toInt ≤ 600 := hp11
      obtain ⟨f12, f13, f14, f15, f16, f17⟩ := hp11
      exact y_vret ((h0_fault, h0_place, v6, v7, v8, v9) : Int32 × Int32 × Int32 × Int32 × Int32 × Int32) hx hb hr hlocks hK hP hD hS hAe hQ rfl ⟨(show 0 ≤ h0_length.toInt from by omega), (show h0_length.toInt ≤ 600 from by omega), (show 0 ≤ v6.toInt from by omega), (show v6.toInt ≤ 600 from by omega), (show 0 ≤ v8.toInt from by omega), (show v8.toInt ≤ 600 from by omega)⟩ dX7_passSemicolon_24
  · have f2 : ¬ h0_kind.toInt = 3 := z_ne rfl (show Int32.toInt 3 = 3 from by decide) c_1
    refine lv_aload_n hx hb dX7_passSemicolon_8 rfl (lv_at hl 0 rfl) ?_
    refine lv_iconst (v := 1) hx hb dX7_passSemicolon_9 (by decide) ?_
    refine y_finv (w' := fun (u18 : Int32 × Int32) => [(h0, .inr (7, [.ref h0_text, .int h0_length, .int u18.1, .int u18.2, .int h0_next, .int h0_kind, .int h0_start, .int h0_value])), (h0_text, .inl (cB, 600, .inl h0_text_f))]) (va_runV (As := [.int 1]) (rest := []) ⟨hx, hb, hml, hown, hts⟩ (k_X7_refuse l dC dI cB cI cJ cZ cP cQ h0 h0_text H.size 1 h0_length h0_fault h0_place h0_next h0_kind h0_start h0_value (show 0 ≤ h0_length.toInt from by omega) (show h0_length.toInt ≤ 600 from by omega) (show 0 ≤ h0_next.toInt from by omega) (show h0_next.toInt ≤ 600 from by omega) (show 0 ≤ h0_start.toInt from by omega) (show h0_start.toInt ≤ 600 from by omega) (show ¬ (1 : Int) = 0 from by omega)) (cwV 1 hts gX7_passSemicolon_X7_refuse rfl rfl rfl ⟨rfl, hd_X7_refuse⟩ ⟨Nat.le_of_ble_eq_true rfl, Nat.le_of_ble_eq_true rfl⟩) (z_pV (ci := 7) hK hP hD zX_nil [0] (by decide) rfl rfl 0 rfl) rfl rfl hl.1 rfl (lv_room (Nat.le_of_ble_eq_true rfl)) dX7_passSemicolon_10 ⟨Nat.le_of_ble_eq_true rfl, Nat.le_of_ble_eq_true rfl⟩) hP hD hS hA [0] [1] [1, 0] rfl rfl (by decide) (by decide) (fun _ => rfl) (by decide) (fun u18 H locs hp22 hP hD hS => ?_)
    obtain ⟨v19, v20⟩ := u18
    have hP : va_P (dC, dI) vwCl [(h0, .inr (7, [.ref h0_text, .int h0_length, .int v19, .int v20, .int h0_next, .int h0_kind, .int h0_start, .int h0_value])), (h0_text, .inl (cB, 600, .inl h0_text_f))] H := hP
    have hD : va_D A [(h0, .inr (7, [.ref h0_text, .int h0_length, .int v19, .int v20, .int h0_next, .int h0_kind, .int h0_start, .int h0_value])), (h0_text, .inl (cB, 600, .inl h0_text_f))] := hD
    have hp22 : ¬ v19.toInt = 0 := hp22
    have f23 := hp22
    refine lv_aload_n hx hb dX7_passSemicolon_13 rfl (lv_at hl 0 rfl) ?_
    refine va_get (D := (dC, dI)) (ci := 7) (v := .int v19) (C := RX7) (T := TX7) (N := 8) hx hb hts hi7 hown hK hP 0 rfl rfl 2 (by decide) hk1 (fun _ h9 => h9) rfl dX7_passSemicolon_14 ?_
    refine lv_if_ne (tgt := 24) hx hb dX7_passSemicolon_17 (by decide) (fun c_24 => ?_) (fun c_24 => ?_)
    · have f25 : ¬ v19.toInt = 0 := z_ne rfl (show Int32.toInt 0 = 0 from by decide) c_24
      exact y_vret ((v19, v20, h0_next, h0_kind, h0_start, h0_value) : Int32 × Int32 × Int32 × Int32 × Int32 × Int32) hx hb hr hlocks hK hP hD hS hAe hQ rfl ⟨(show 0 ≤ h0_length.toInt from by omega), (show h0_length.toInt ≤ 600 from by omega), (show 0 ≤ h0_next.toInt from by omega), (show h0_next.toInt ≤ 600 from by omega), (show 0 ≤ h0_start.toInt from by omega), (show h0_start.toInt ≤ 600 from by omega)⟩ dX7_passSemicolon_24
    · have f25 : v19.toInt = 0 := z_eq rfl (show Int32.toInt 0 = 0 from by decide) c_24
      refine lv_aload_n hx hb dX7_passSemicolon_20 rfl (lv_at hl 0 rfl) ?_
      refine y_finv (w' := fun (u26 : Int32 × Int32 × Int32 × Int32) => [(h0, .inr (7, [.ref h0_text, .int h0_length, .int v19, .int v20, .int u26.1, .int u26.2.1, .int u26.2.2.1, .int u26.2.2.2])), (h0_text, .inl (cB, 600, .inl h0_text_f))]) (va_runV (As := []) (rest := []) ⟨hx, hb, hml, hown, hts⟩ (k_X7_step l dC dI cB cI cJ cZ cP cQ h0 h0_text H.size h0_length v19 v20 h0_next h0_kind h0_start h0_value h0_text_f (show 0 ≤ h0_length.toInt from by omega) (show h0_length.toInt ≤ 600 from by omega) (show 0 ≤ h0_next.toInt from by omega) (show h0_next.toInt ≤ 600 from by omega) (show 0 ≤ h0_start.toInt from by omega) (show h0_start.toInt ≤ 600 from by omega)) (cwV 0 hts gX7_passSemicolon_X7_step rfl rfl rfl ⟨rfl, hd_X7_step⟩ ⟨Nat.le_of_ble_eq_true rfl, Nat.le_of_ble_eq_true rfl⟩) (z_pV (ci := 7) hK hP hD zX_nil [0, 1] (by decide) rfl rfl 0 rfl) rfl rfl hl.1 rfl (lv_room (Nat.le_of_ble_eq_true rfl)) dX7_passSemicolon_21 ⟨Nat.le_of_ble_eq_true rfl, Nat.le_of_ble_eq_true rfl⟩) hP hD hS hA [0, 1] [] [0, 1] rfl rfl (by decide) (by decide) (fun _ => rfl) (by decide) (fun u26 H locs hp32 hP hD hS => ?_)
      obtain ⟨v27, v28, v29, v30⟩ := u26
      have hP : va_P (dC, dI) vwCl [(h0, .inr (7, [.ref h0_text, .int h0_length, .int v19, .int v20, .int v27, .int v28, .int v29, .int v30])), (h0_text, .inl (cB, 600, .inl h0_text_f))] H := hP
      have hD : va_D A [(h0, .inr (7, [.ref h0_text, .int h0_length, .int v19, .int v20, .int v27, .int v28, .int v29, .int v30])), (h0_text, .inl (cB, 600, .inl h0_text_f))] := hD
      have hp32 : 0 ≤ h0_length.toInt ∧ h0_length.toInt ≤ 600 ∧ 0 ≤ v27.toInt ∧ v27.toInt ≤ 600 ∧ 0 ≤ v29.toInt ∧ v29.toInt ≤ 600 := hp32
      obtain ⟨f33, f34, f35, f36, f37, f38⟩ := hp32
      exact y_vret ((v19, v20, v27, v28, v29, v30) : Int32 × Int32 × Int32 × Int32 × Int32 × Int32) hx hb hr hlocks hK hP hD hS hAe hQ rfl ⟨(show 0 ≤ h0_length.toInt from by omega), (show h0_length.toInt ≤ 600 from by omega), (show 0 ≤ v27.toInt from by omega), (show v27.toInt ≤ 600 from by omega), (show 0 ≤ v29.toInt from by omega), (show v29.toInt ≤ 600 from by omega)⟩ dX7_passSemicolon_24
