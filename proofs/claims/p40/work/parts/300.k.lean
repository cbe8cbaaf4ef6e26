set_option maxHeartbeats 8000000 in
set_option maxRecDepth 100000 in
theorem k_X0_from (l : Launch) (dC : Nat → ClassId) (dI : Nat → Nat → Nat) (cB cI cJ cZ cP cQ : ClassId) (h0 : Nat) (sz : Nat) (p1 : Int32) (h0_x : Int64) : Met l yX0_from wsX0_from ({ frames := 0, cells := 0, slots := 0, locals := 0 } : Room) (zPc [.ref h0, .int p1] (dC, dI) (zT cB cI cJ cZ cP cQ) [(h0, .inr (0, [.long h0_x]))] sz [] []) (va_Qv (fun (u : Int64) => True) (zB (dC, dI) (zT cB cI cJ cZ cP cQ) (fun u : Int64 => [(h0, .inr (0, [.long u]))]) [(h0, .inr (0, [.long h0_x]))] sz) (va_A [(h0, .inr (0, [.long h0_x]))] sz)) 0 0 (va_A [(h0, .inr (0, [.long h0_x]))] sz) := by
  refine z_enter (cc := cX0_from) (maxL := 2) (ret := none) (by decide) rfl (Nat.le_of_ble_eq_true rfl) ?_
  intro p e s m below meth c A ls Q H locs hx hb hr hml hown hts hlocks hin hK hP hD hA hX hS hAe hQ hl
  have hown : s.vm.findClass RX0 = some m.cls := hown
  have hi0 : ∀ w ∈ wsX00, w ∈ wsX0_from := fun w h => List.mem_cons_of_mem _ (List.mem_append_right _ h)
  have hk0 := hts (.fieldLink RX0 7 "MonthPush$Draws" "x" "J") (by decide +kernel)
  have hl : lv_has ls 2 [(0, .ref h0), (1, .int p1)] := hl
  refine lv_aload_n hx hb dX0_from_0 rfl (lv_at hl 0 rfl) ?_
  refine lv_iload_n hx hb dX0_from_1 rfl (lv_at hl 1 rfl) ?_
  refine lv_i2l hx hb dX0_from_2 rfl ?_
  have f1 : -2147483648 ≤ p1.toInt ∧ p1.toInt < 2147483648 := z_rngI rfl
  refine lv_topl (fun r2 h3 => ?_)
  have f4 : r2.toInt = p1.toInt := z_i2lT h3 rfl
  refine va_put (D := (dC, dI)) (ci := 0) (v := .long r2) (ty := .long) (C := RX0) (T := TX0) (N := 1) hx hb hts hi0 tyX0 tyX0_ok nmX0 hown hK hP hD hS 0 rfl rfl 0 (by decide) hk0 (fun _ h9 => h9) rfl (by decide +kernel) rfl rfl (Nat.le_of_ble_eq_true rfl) dX0_from_3 (fun H locs hP hD hS => ?_)
  have hP : va_P (dC, dI) vwCl [(h0, .inr (0, [.long r2]))] H := hP
  have hD : va_D A [(h0, .inr (0, [.long r2]))] := hD
  exact y_vret ((r2) : Int64) hx hb hr hlocks hK hP hD hS hAe hQ rfl trivial dX0_from_6
set_option maxHeartbeats 8000000 in
set_option maxRecDepth 100000 in
theorem k_X0_of (l : Launch) (dC : Nat → ClassId) (dI : Nat → Nat → Nat) (cB cI cJ cZ cP cQ : ClassId) (h0 : Nat) (sz : Nat) (p1 : Int32) (h0_x : Int64) : Met l yX0_of wsX0_of ({ frames := 0, cells := 0, slots := 0, locals := 0 } : Room) (zPc [.ref h0, .int p1] (dC, dI) (zT cB cI cJ cZ cP cQ) [(h0, .inr (0, [.long h0_x]))] sz [] []) (va_Qi (fun (r : Int32) (u : Int64) => 0 ≤ r.toInt ∧ (1 ≤ p1.toInt → r.toInt < p1.toInt) ∧ (p1.toInt < 1 → r.toInt = 0)) (zB (dC, dI) (zT cB cI cJ cZ cP cQ) (fun u : Int64 => [(h0, .inr (0, [.long u]))]) [(h0, .inr (0, [.long h0_x]))] sz) (va_A [(h0, .inr (0, [.long h0_x]))] sz)) 0 0 (va_A [(h0, .inr (0, [.long h0_x]))] sz) := by
  refine z_enter (cc := cX0_of) (maxL := 2) (ret := (some .int)) (by decide) rfl (Nat.le_of_ble_eq_true rfl) ?_
  intro p e s m below meth c A ls Q H locs hx hb hr hml hown hts hlocks hin hK hP hD hA hX hS hAe hQ hl
  have hown : s.vm.findClass RX0 = some m.cls := hown
  have hi0 : ∀ w ∈ wsX00, w ∈ wsX0_of := fun w h => List.mem_cons_of_mem _ (List.mem_append_right _ h)
  have hk0 := hts (.constantLong RX0 13 1103515245) (by decide +kernel)
  have hk1 := hts (.fieldLink RX0 7 "MonthPush$Draws" "x" "J") (by decide +kernel)
  have hk2 := hts (.constantLong RX0 15 12345) (by decide +kernel)
  have hk3 := hts (.constantLong RX0 17 2147483647) (by decide +kernel)
  have hk4 := hts (.constantLong RX0 19 65536) (by decide +kernel)
  have hl : lv_has ls 2 [(0, .ref h0), (1, .int p1)] := hl
  refine lv_aload_n hx hb dX0_of_0 rfl (lv_at hl 0 rfl) ?_
  refine lv_ldc2 hx hb hown hk0 dX0_of_1 ?_
  refine lv_aload_n hx hb dX0_of_4 rfl (lv_at hl 0 rfl) ?_
  refine va_get (D := (dC, dI)) (ci := 0) (v := .long h0_x) (C := RX0) (T := TX0) (N := 1) hx hb hts hi0 hown hK hP 0 rfl rfl 0 (by decide) hk1 (fun _ h9 => h9) rfl dX0_of_5 ?_
  refine lv_lmul hx hb dX0_of_8 ?_
  refine lv_topl (fun r1 _ => ?_)
  refine lv_ldc2 hx hb hown hk2 dX0_of_9 ?_
  refine lv_ladd hx hb dX0_of_12 ?_
  refine lv_topl (fun r2 _ => ?_)
  refine lv_ldc2 hx hb hown hk3 dX0_of_13 ?_
  refine lv_land hx hb dX0_of_16 ?_
  refine lv_topl (fun r3 h4 => ?_)
  have f5 : 0 ≤ r3.toInt ∧ r3.toInt ≤ 2147483647 := z_mask31 h4
  refine va_put (D := (dC, dI)) (ci := 0) (v := .long r3) (ty := .long) (C := RX0) (T := TX0) (N := 1) hx hb hts hi0 tyX0 tyX0_ok nmX0 hown hK hP hD hS 0 rfl rfl 0 (by decide) hk1 (fun _ h9 => h9) rfl (by decide +kernel) rfl rfl (Nat.le_of_ble_eq_true rfl) dX0_of_17 (fun H locs hP hD hS => ?_)
  have hP : va_P (dC, dI) vwCl [(h0, .inr (0, [.long r3]))] H := hP
  have hD : va_D A [(h0, .inr (0, [.long r3]))] := hD
  refine lv_iload_n hx hb dX0_of_20 rfl (lv_at hl 1 rfl) ?_
  refine lv_iconst (v := 1) hx hb dX0_of_21 (by decide) ?_
  refine lv_icmp_ge (tgt := 29) hx hb dX0_of_22 (by decide) (fun c_6 => ?_) (fun c_6 => ?_)
  · have f7 : 1 ≤ p1.toInt := z_le (by decide) rfl c_6
    refine lv_aload_n hx hb dX0_of_29 rfl (lv_at hl 0 rfl) ?_
    refine va_get (D := (dC, dI)) (ci := 0) (v := .long r3) (C := RX0) (T := TX0) (N := 1) hx hb hts hi0 hown hK hP 0 rfl rfl 0 (by decide) hk1 (fun _ h9 => h9) rfl dX0_of_30 ?_
    refine lv_ldc2 hx hb hown hk4 dX0_of_33 ?_
    refine lv_ldiv hx hb dX0_of_36 (by decide) ?_
    refine lv_topl (fun r8 h9 => ?_)
    have f10 : r8.toInt = r3.toInt / 65536 := z_ldivB h9 rfl (by decide) (by omega) (by omega)
    refine lv_iload_n hx hb dX0_of_37 rfl (lv_at hl 1 rfl) ?_
    refine lv_i2l hx hb dX0_of_38 rfl ?_
    have f11 : -2147483648 ≤ p1.toInt ∧ p1.toInt < 2147483648 := z_rngI rfl
    refine lv_topl (fun r12 h13 => ?_)
    have f14 : r12.toInt = p1.toInt := z_i2lT h13 rfl
    refine lv_lrem hx hb dX0_of_39 (z_nl0 rfl (by omega)) ?_
    refine lv_topl (fun r15 h16 => ?_)
    have f17 : 0 ≤ r15.toInt ∧ r15.toInt < r12.toInt ∧ r15.toInt ≤ r8.toInt := z_lremB h16 rfl rfl (by omega) (by omega)
    refine lv_l2i hx hb dX0_of_40 rfl ?_
    refine lv_topi (fun r18 h19 => ?_)
    have f20 : r18.toInt = r15.toInt := z_l2i h19 rfl (by omega) (by omega)
    exact y_iret ((r3) : Int64) hx hb hr hlocks hK hP hD hS hAe hQ rfl ⟨(show 0 ≤ r18.toInt from by omega), (show 1 ≤ p1.toInt → r18.toInt < p1.toInt from by omega), (show p1.toInt < 1 → r18.toInt = 0 from by omega)⟩ dX0_of_41
  · have f7 : p1.toInt < 1 := z_nle (by decide) rfl c_6
    refine lv_iconst (v := 0) hx hb dX0_of_25 (by decide) ?_
    refine lv_goto (tgt := 41) hx hb dX0_of_26 (by decide) ?_
    exact y_iret ((r3) : Int64) hx hb hr hlocks hK hP hD hS hAe hQ rfl ⟨(show 0 ≤ (0 : Int) from by omega), (show 1 ≤ p1.toInt → (0 : Int) < p1.toInt from by omega), (show p1.toInt < 1 → (0 : Int) = 0 from by omega)⟩ dX0_of_41
set_option maxHeartbeats 8000000 in
set_option maxRecDepth 100000 in
theorem k_X1_filled (l : Launch) (dC : Nat → ClassId) (dI : Nat → Nat → Nat) (cB cI cJ cZ cP cQ : ClassId) (h0 : Nat) (h0_size : Nat) (h0_school : Nat) (h0_wage : Nat) (sz : Nat) (h0_size_f : Nat → Int64) : Met l yX1_filled wsX1_filled ({ frames := 0, cells := 0, slots := 0, locals := 0 } : Room) (zPc [.ref h0] (dC, dI) (zT cB cI cJ cZ cP cQ) [(h0, .inr (1, [.ref h0_size, .ref h0_school, .ref h0_wage])), (h0_size, .inl (cJ, 72, .inr (.inl h0_size_f)))] sz [] []) (va_Qi (fun (r : Int32) (u : Unit) => True) (zB (dC, dI) (zT cB cI cJ cZ cP cQ) (fun u : Unit => [(h0, .inr (1, [.ref h0_size, .ref h0_school, .ref h0_wage])), (h0_size, .inl (cJ, 72, .inr (.inl h0_size_f)))]) [(h0, .inr (1, [.ref h0_size, .ref h0_school, .ref h0_wage])), (h0_size, .inl (cJ, 72, .inr (.inl h0_size_f)))] sz) (va_A [(h0, .inr (1, [.ref h0_size, .ref h0_school, .ref h0_wage])), (h0_size, .inl (cJ, 72, .inr (.inl h0_size_f)))] sz)) 0 0 (va_A [(h0, .inr (1, [.ref h0_size, .ref h0_school, .ref h0_wage])), (h0_size, .inl (cJ, 72, .inr (.inl h0_size_f)))] sz) := by
  refine z_enter (cc := cX1_filled) (maxL := 3) (ret := (some .int)) (by decide) rfl (Nat.le_of_ble_eq_true rfl) ?_
  intro p e s m below meth c A ls Q H locs hx hb hr hml hown hts hlocks hin hK hP hD hA hX hS hAe hQ hl
  have hown : s.vm.findClass RX1 = some m.cls := hown
  have hi1 : ∀ w ∈ wsX10, w ∈ wsX1_filled := fun w h => List.mem_cons_of_mem _ (List.mem_append_right _ h)
  have hk0 := hts (.fieldLink RX1 11 "MonthPush$Groups" "size" "[J") (by decide +kernel)
  have hl : lv_has ls 3 [(0, .ref h0)] := hl
  refine lv_iconst (v := 0) hx hb dX1_filled_0 (by decide) ?_
  refine lv_istore_n (lv' := [(1, .int 0), (0, .ref h0)]) hx hb dX1_filled_1 rfl hl (by decide) rfl (fun ls hl => ?_)
  refine lv_iconst (v := 0) hx hb dX1_filled_2 (by decide) ?_
  refine lv_istore_n (lv' := [(2, .int 0), (1, .int 0), (0, .ref h0)]) hx hb dX1_filled_3 rfl hl (by decide) rfl (fun ls hl => ?_)
  have hlp3 : ∀ (n : Nat) (x1 : Int32) (x2 : Int32), 72 - x1.toInt < (n : Int) → 0 ≤ x1.toInt → x1.toInt ≤ 72 → ∀ (H : Heap) (locs : List Loc), va_P (dC, dI) vwCl [(h0, .inr (1, [.ref h0_size, .ref h0_school, .ref h0_wage])), (h0_size, .inl (cJ, 72, .inr (.inl h0_size_f)))] H → va_D A [(h0, .inr (1, [.ref h0_size, .ref h0_school, .ref h0_wage])), (h0_size, .inl (cJ, 72, .inr (.inl h0_size_f)))] → va_S A s.heap H locs → ∀ (ls : Array Slot), lv_has ls 3 [(2, .int x1), (1, .int x2), (0, .ref h0)] → W p l e ({ frames := 0, cells := 0, slots := 0, locals := 0 } : Room) s m ([.ref h0] : List Value).toArray below meth c H locs 0 0 Q (F0 m 4 ls []) := by
    intro n
    induction n with
    | zero =>
      intro x1 x2 hm6 k4 k5
      exact absurd hm6 (by omega)
    | succ n ih7 =>
      intro x1 x2 hm6 k4 k5 H locs hP hD hS ls hl
      refine lv_iload_n hx hb dX1_filled_4 rfl (lv_at hl 0 rfl) ?_
      refine lv_bipush (v := 72) hx hb dX1_filled_5 (by decide) ?_
      refine lv_icmp_ge (tgt := 30) hx hb dX1_filled_7 (by decide) (fun c_8 => ?_) (fun c_8 => ?_)
      · have f9 : 72 ≤ x1.toInt := z_le (by decide) rfl c_8
        refine lv_iload_n hx hb dX1_filled_30 rfl (lv_at hl 1 rfl) ?_
        exact y_iret () hx hb hr hlocks hK hP hD hS hAe hQ rfl trivial dX1_filled_31
      · have f9 : x1.toInt < 72 := z_nle (by decide) rfl c_8
        refine lv_aload_n hx hb dX1_filled_10 rfl (lv_at hl 2 rfl) ?_
        refine va_get (D := (dC, dI)) (ci := 1) (v := .ref h0_size) (C := RX1) (T := TX1) (N := 3) hx hb hts hi1 hown hK hP 0 rfl rfl 0 (by decide) hk0 (fun _ h9 => h9) rfl dX1_filled_11 ?_
        refine lv_iload_n hx hb dX1_filled_14 rfl (lv_at hl 0 rfl) ?_
        refine va_lald hx hb hK hP 1 2 rfl rfl (z_in rfl (by omega) (by omega)) dX1_filled_15 ?_
        refine lv_lconst (v := 0) hx hb dX1_filled_16 (by decide) ?_
        refine W.lcmp hx hb dX1_filled_17 ?_
        refine lv_if_le (tgt := 24) hx hb dX1_filled_18 (by decide) (fun c_10 => ?_) (fun c_10 => ?_)
        · have f11 : (h0_size_f x1.toNatClampNeg).toInt ≤ 0 := z_lle rfl (by decide) c_10
          obtain ⟨r12, h13⟩ : ∃ q : Int32, q = x1 + 1 := ⟨_, rfl⟩
          have f14 : r12.toInt = x1.toInt + 1 := z_iadd h13 rfl (by decide) (by omega) (by omega)
          refine lv_iinc (v := r12) (lv' := [(2, .int r12), (1, .int x2), (0, .ref h0)]) hx hb dX1_filled_24 hl (k := 0) rfl h13.symm (by decide) rfl (fun ls hl => ?_)
          refine lv_goto (tgt := 4) hx hb dX1_filled_27 (by decide) ?_
          exact ih7 r12 x2 (by omega) (by omega) (by omega) _ _ hP hD hS ls (lv_sub hl [0, 1, 2] rfl)
        · have f11 : 0 < (h0_size_f x1.toNatClampNeg).toInt := z_lnle rfl (by decide) c_10
          obtain ⟨r15, h16⟩ : ∃ q : Int32, q = x2 + 1 := ⟨_, rfl⟩
          refine lv_iinc (v := r15) (lv' := [(1, .int r15), (2, .int x1), (0, .ref h0)]) hx hb dX1_filled_21 hl (k := 1) rfl h16.symm (by decide) rfl (fun ls hl => ?_)
          obtain ⟨r17, h18⟩ : ∃ q : Int32, q = x1 + 1 := ⟨_, rfl⟩
          have f19 : r17.toInt = x1.toInt + 1 := z_iadd h18 rfl (by decide) (by omega) (by omega)
          refine lv_iinc (v := r17) (lv' := [(2, .int r17), (1, .int r15), (0, .ref h0)]) hx hb dX1_filled_24 hl (k := 1) rfl h18.symm (by decide) rfl (fun ls hl => ?_)
          refine lv_goto (tgt := 4) hx hb dX1_filled_27 (by decide) ?_
          exact ih7 r17 r15 (by omega) (by omega) (by omega) _ _ hP hD hS ls (lv_sub hl [0, 1, 2] rfl)
  exact hlp3 (72 - (0 : Int) + 1).toNat 0 0 (by omega) (by omega) (by omega) _ _ hP hD hS ls (lv_sub hl [0, 1, 2] rfl)
set_option maxHeartbeats 8000000 in
set_option maxRecDepth 100000 in
theorem k_X8_thousandths (l : Launch) (dC : Nat → ClassId) (dI : Nat → Nat → Nat) (cB cI cJ cZ cP cQ : ClassId) (sz : Nat) (p0 : Int64) (p1 : Int64) : Met l yX8_thousandths wsX8_thousandths ({ frames := 0, cells := 0, slots := 0, locals := 0 } : Room) (zPc [.long p0, .long p1] (dC, dI) (zT cB cI cJ cZ cP cQ) [] sz [] []) (va_Ql (fun (r : Int64) (u : Unit) => (True) ∨ (r = (-9000000000000000000) ∧ p1.toInt = 0)) (zB (dC, dI) (zT cB cI cJ cZ cP cQ) (fun u : Unit => []) [] sz) (va_A [] sz)) 0 0 (va_A [] sz) := by
  refine z_enter (cc := cX8_thousandths) (maxL := 4) (ret := (some .long)) (by decide) rfl (Nat.le_of_ble_eq_true rfl) ?_
  intro p e s m below meth c A ls Q H locs hx hb hr hml hown hts hlocks hin hK hP hD hA hX hS hAe hQ hl
  have hown : s.vm.findClass RX8 = some m.cls := hown
  have hk0 := hts (.constantLong RX8 310 1000) (by decide +kernel)
  have hk1 := hts (.constantLong RX8 282 (-9000000000000000000)) (by decide +kernel)
  have hl : lv_has ls 4 [(0, .long p0), (2, .long p1)] := hl
  refine lv_lload_n hx hb dX8_thousandths_0 rfl (lv_at hl 1 rfl) ?_
  refine lv_lconst (v := 0) hx hb dX8_thousandths_1 (by decide) ?_
  refine W.lcmp hx hb dX8_thousandths_2 ?_
  refine lv_if_ne (tgt := 12) hx hb dX8_thousandths_3 (by decide) (fun c_1 => ?_) (fun c_1 => ?_)
  · have f2 : ¬ p1.toInt = 0 := z_lne rfl (by decide) c_1
    refine lv_ldc2 hx hb hown hk0 dX8_thousandths_12 ?_
    refine lv_lload_n hx hb dX8_thousandths_15 rfl (lv_at hl 0 rfl) ?_
    refine lv_lmul hx hb dX8_thousandths_16 ?_
    refine lv_topl (fun r3 _ => ?_)
    refine lv_lload_n hx hb dX8_thousandths_17 rfl (lv_at hl 1 rfl) ?_
    refine lv_ldiv hx hb dX8_thousandths_18 (z_nl0 rfl (by omega)) ?_
    refine lv_topl (fun r4 h5 => ?_)
    exact y_lret () hx hb hr hlocks hK hP hD hS hAe hQ rfl (Or.inl trivial) dX8_thousandths_19
  · have f2 : p1.toInt = 0 := z_leq rfl (by decide) c_1
    refine lv_ldc2 hx hb hown hk1 dX8_thousandths_6 ?_
    refine lv_goto (tgt := 19) hx hb dX8_thousandths_9 (by decide) ?_
    exact y_lret () hx hb hr hlocks hK hP hD hS hAe hQ rfl (Or.inr ⟨rfl, f2⟩) dX8_thousandths_19
set_option maxHeartbeats 8000000 in
set_option maxRecDepth 100000 in
theorem k_X1_slope (l : Launch) (dC : Nat → ClassId) (dI : Nat → Nat → Nat) (cB cI cJ cZ cP cQ : ClassId) (h0 : Nat) (h0_size : Nat) (h0_school : Nat) (h0_wage : Nat) (sz : Nat) (h0_size_f : Nat → Int64) (h0_school_f : Nat → Int64) (h0_wage_f : Nat → Int64) : Met l yX1_slope wsX1_slope ({ frames := 1, cells := 0, slots := 0, locals := 23 } : Room) (zPc [.ref h0] (dC, dI) (zT cB cI cJ cZ cP cQ) [(h0, .inr (1, [.ref h0_size, .ref h0_school, .ref h0_wage])), (h0_size, .inl (cJ, 72, .inr (.inl h0_size_f))), (h0_school, .inl (cJ, 72, .inr (.inl h0_school_f))), (h0_wage, .inl (cJ, 72, .inr (.inl h0_wage_f)))] sz [(RX1, 44, yX8_thousandths, "MonthPush")] []) (va_Ql (fun (r : Int64) (u : Unit) => (True) ∨ (r = (-9000000000000000000))) (zB (dC, dI) (zT cB cI cJ cZ cP cQ) (fun u : Unit => [(h0, .inr (1, [.ref h0_size, .ref h0_school, .ref h0_wage])), (h0_size, .inl (cJ, 72, .inr (.inl h0_size_f))), (h0_school, .inl (cJ, 72, .inr (.inl h0_school_f))), (h0_wage, .inl (cJ, 72, .inr (.inl h0_wage_f)))]) [(h0, .inr (1, [.ref h0_size, .ref h0_school, .ref h0_wage])), (h0_size, .inl (cJ, 72, .inr (.inl h0_size_f))), (h0_school, .inl (cJ, 72, .inr (.inl h0_school_f))), (h0_wage, .inl (cJ, 72, .inr (.inl h0_wage_f)))] sz) (va_A [(h0, .inr (1, [.ref h0_size, .ref h0_school, .ref h0_wage])), (h0_size, .inl (cJ, 72, .inr (.inl h0_size_f))), (h0_school, .inl (cJ, 72, .inr (.inl h0_school_f))), (h0_wage, .inl (cJ, 72, .inr (.inl h0_wage_f)))] sz)) 0 0 (va_A [(h0, .inr (1, [.ref h0_size, .ref h0_school, .ref h0_wage])), (h0_size, .inl (cJ, 72, .inr (.inl h0_size_f))), (h0_school, .inl (cJ, 72, .inr (.inl h0_school_f))), (h0_wage, .inl (cJ, 72, .inr (.inl h0_wage_f)))] sz) := by
  refine z_enter (cc := cX1_slope) (maxL := 12) (ret := (some .long)) (by decide) rfl (Nat.le_of_ble_eq_true rfl) ?_
  intro p e s m below meth c A ls Q H locs hx hb hr hml hown hts hlocks hin hK hP hD hA hX hS hAe hQ hl
  have hown : s.vm.findClass RX1 = some m.cls := hown
  have hi1 : ∀ w ∈ wsX10, w ∈ wsX1_slope := fun w h => List.mem_cons_of_mem _ (List.mem_append_right _ h)
  have hk0 := hts (.initialized RX8) (by decide +kernel)
  have hk1 := hts (.static yX8_thousandths) (by decide +kernel)
  have hk2 := hts (.fieldLink RX1 11 "MonthPush$Groups" "size" "[J") (by decide +kernel)
  have hk3 := hts (.fieldLink RX1 15 "MonthPush$Groups" "school" "[J") (by decide +kernel)
  have hk4 := hts (.fieldLink RX1 18 "MonthPush$Groups" "wage" "[J") (by decide +kernel)
  have hl : lv_has ls 12 [(0, .ref h0)] := hl
  refine lv_lconst (v := 0) hx hb dX1_slope_0 (by decide) ?_
  refine lv_lstore_n (lv' := [(1, .long 0), (0, .ref h0)]) hx hb dX1_slope_1 rfl hl (by decide) rfl (fun ls hl => ?_)
  refine lv_lconst (v := 0) hx hb dX1_slope_2 (by decide) ?_
  refine lv_lstore_n (lv' := [(3, .long 0), (1, .long 0), (0, .ref h0)]) hx hb dX1_slope_3 rfl hl (by decide) rfl (fun ls hl => ?_)
  refine lv_lconst (v := 0) hx hb dX1_slope_4 (by decide) ?_
  refine lv_lstore (lv' := [(5, .long 0), (3, .long 0), (1, .long 0), (0, .ref h0)]) hx hb dX1_slope_5 hl (by decide) rfl (fun ls hl => ?_)
  refine lv_lconst (v := 0) hx hb dX1_slope_7 (by decide) ?_
  refine lv_lstore (lv' := [(7, .long 0), (5, .long 0), (3, .long 0), (1, .long 0), (0, .ref h0)]) hx hb dX1_slope_8 hl (by decide) rfl (fun ls hl => ?_)
  refine lv_lconst (v := 0) hx hb dX1_slope_10 (by decide) ?_
  refine lv_lstore (lv' := [(9, .long 0), (7, .long 0), (5, .long 0), (3, .long 0), (1, .long 0), (0, .ref h0)]) hx hb dX1_slope_11 hl (by decide) rfl (fun ls hl => ?_)
  refine lv_iconst (v := 0) hx hb dX1_slope_13 (by decide) ?_
  refine lv_istore (lv' := [(11, .int 0), (9, .long 0), (7, .long 0), (5, .long 0), (3, .long 0), (1, .long 0), (0, .ref h0)]) hx hb dX1_slope_14 hl (by decide) rfl (fun ls hl => ?_)
  have hlp7 : ∀ (n : Nat) (x1 : Int32) (x2 : Int64) (x3 : Int64) (x4 : Int64) (x5 : Int64) (x6 : Int64), 72 - x1.toInt < (n : Int) → 0 ≤ x1.toInt → x1.toInt ≤ 72 → ∀ (H : Heap) (locs : List Loc), va_P (dC, dI) vwCl [(h0, .inr (1, [.ref h0_size, .ref h0_school, .ref h0_wage])), (h0_size, .inl (cJ, 72, .inr (.inl h0_size_f))), (h0_school, .inl (cJ, 72, .inr (.inl h0_school_f))), (h0_wage, .inl (cJ, 72, .inr (.inl h0_wage_f)))] H → va_D A [(h0, .inr (1, [.ref h0_size, .ref h0_school, .ref h0_wage])), (h0_size, .inl (cJ, 72, .inr (.inl h0_size_f))), (h0_school, .inl (cJ, 72, .inr (.inl h0_school_f))), (h0_wage, .inl (cJ, 72, .inr (.inl h0_wage_f)))] → va_S A s.heap H locs → ∀ (ls : Array Slot), lv_has ls 12 [(11, .int x1), (9, .long x2), (7, .long x3), (5, .long x4), (3, .long x5), (1, .long x6), (0, .ref h0)] → W p l e ({ frames := 1, cells := 0, slots := 0, locals := 23 } : Room) s m ([.ref h0] : List Value).toArray below meth c H locs 0 0 Q (F0 m 16 ls []) := by
    intro n
    induction n with
    | zero =>
      intro x1 x2 x3 x4 x5 x6 hm10 k8 k9
      exact absurd hm10 (by omega)
    | succ n ih11 =>
      intro x1 x2 x3 x4 x5 x6 hm10 k8 k9 H locs hP hD hS ls hl
      refine lv_iload hx hb dX1_slope_16 (lv_at hl 0 rfl) ?_
      refine lv_bipush (v := 72) hx hb dX1_slope_18 (by decide) ?_
      refine lv_icmp_ge (tgt := 129) hx hb dX1_slope_20 (by decide) (fun c_12 => ?_) (fun c_12 => ?_)
      · have f13 : 72 ≤ x1.toInt := z_le (by decide) rfl c_12
        refine lv_lload_n hx hb dX1_slope_129 rfl (lv_at hl 5 rfl) ?_
        refine lv_lload hx hb dX1_slope_130 (lv_at hl 2 rfl) ?_
        refine lv_lmul hx hb dX1_slope_132 ?_
        refine lv_topl (fun r14 _ => ?_)
        refine lv_lload_n hx hb dX1_slope_133 rfl (lv_at hl 4 rfl) ?_
        refine lv_lload hx hb dX1_slope_134 (lv_at hl 3 rfl) ?_
        refine lv_lmul hx hb dX1_slope_136 ?_
        refine lv_topl (fun r15 _ => ?_)
        refine lv_lsub hx hb dX1_slope_137 ?_
        refine lv_topl (fun r16 _ => ?_)
        refine lv_lload_n hx hb dX1_slope_138 rfl (lv_at hl 5 rfl) ?_
        refine lv_lload hx hb dX1_slope_139 (lv_at hl 1 rfl) ?_
        refine lv_lmul hx hb dX1_slope_141 ?_
        refine lv_topl (fun r17 _ => ?_)
        refine lv_lload_n hx hb dX1_slope_142 rfl (lv_at hl 4 rfl) ?_
        refine lv_lload_n hx hb dX1_slope_143 rfl (lv_at hl 4 rfl) ?_
        refine lv_lmul hx hb dX1_slope_144 ?_
        refine lv_topl (fun r18 _ => ?_)
        refine lv_lsub hx hb dX1_slope_145 ?_
        refine lv_topl (fun r19 _ => ?_)
        refine y_finl (w' := fun (u20 : Unit) => [(h0, .inr (1, [.ref h0_size, .ref h0_school, .ref h0_wage])), (h0_size, .inl (cJ, 72, .inr (.inl h0_size_f))), (h0_school, .inl (cJ, 72, .inr (.inl h0_school_f))), (h0_wage, .inl (cJ, 72, .inr (.inl h0_wage_f)))]) (va_runSN (As := [.long r16, .long r19]) (rest := []) ⟨hx, hb, hml, hown, hts⟩ (k_X8_thousandths l dC dI cB cI cJ cZ cP cQ H.size r16 r19) ⟨va_cnB 2 hts gX1_slope_X8_thousandths_n44 rfl rfl rfl (hX.1 (RX1, 44, yX8_thousandths, "MonthPush") (by decide +kernel)) hk0 (by decide +kernel) ⟨Nat.le_of_ble_eq_true rfl, Nat.le_of_ble_eq_true rfl⟩, hk1, trivial⟩ (z_pS hK hP hD zX_nil [] (by decide) rfl) rfl rfl hl.1 rfl (lv_room (Nat.le_of_ble_eq_true rfl)) dX1_slope_146 ⟨Nat.le_of_ble_eq_true rfl, Nat.le_of_ble_eq_true rfl⟩) hP hD hS hA [] [0, 1, 2, 3] [0, 1, 2, 3] rfl rfl (by decide) (by decide) (fun _ => rfl) (by decide) (fun r21 u20 H locs hp22 hP hD hS => ?_)
        have hP : va_P (dC, dI) vwCl [(h0, .inr (1, [.ref h0_size, .ref h0_school, .ref h0_wage])), (h0_size, .inl (cJ, 72, .inr (.inl h0_size_f))), (h0_school, .inl (cJ, 72, .inr (.inl h0_school_f))), (h0_wage, .inl (cJ, 72, .inr (.inl h0_wage_f)))] H := hP
        have hD : va_D A [(h0, .inr (1, [.ref h0_size, .ref h0_school, .ref h0_wage])), (h0_size, .inl (cJ, 72, .inr (.inl h0_size_f))), (h0_school, .inl (cJ, 72, .inr (.inl h0_school_f))), (h0_wage, .inl (cJ, 72, .inr (.inl h0_wage_f)))] := hD
        have hp22 : (True) ∨ (r21 = (-9000000000000000000) ∧ r19.toInt = 0) := hp22
        rcases hp22 with f23 | f24
        · exact y_lret () hx hb hr hlocks hK hP hD hS hAe hQ rfl (Or.inl trivial) dX1_slope_149
        · obtain ⟨rfl, f24⟩ := f24
          exact y_lret () hx hb hr hlocks hK hP hD hS hAe hQ rfl (Or.inr rfl) dX1_slope_149
      · have f13 : x1.toInt < 72 := z_nle (by decide) rfl c_12
        refine lv_aload_n hx hb dX1_slope_23 rfl (lv_at hl 6 rfl) ?_
        refine va_get (D := (dC, dI)) (ci := 1) (v := .ref h0_size) (C := RX1) (T := TX1) (N := 3) hx hb hts hi1 hown hK hP 0 rfl rfl 0 (by decide) hk2 (fun _ h9 => h9) rfl dX1_slope_24 ?_
        refine lv_iload hx hb dX1_slope_27 (lv_at hl 0 rfl) ?_
        refine va_lald hx hb hK hP 1 2 rfl rfl (z_in rfl (by omega) (by omega)) dX1_slope_29 ?_
        refine lv_lconst (v := 0) hx hb dX1_slope_30 (by decide) ?_
        refine W.lcmp hx hb dX1_slope_31 ?_
        refine lv_if_le (tgt := 123) hx hb dX1_slope_32 (by decide) (fun c_25 => ?_) (fun c_25 => ?_)
        · have f26 : (h0_size_f x1.toNatClampNeg).toInt ≤ 0 := z_lle rfl (by decide) c_25
          obtain ⟨r27, h28⟩ : ∃ q : Int32, q = x1 + 1 := ⟨_, rfl⟩
          have f29 : r27.toInt = x1.toInt + 1 := z_iadd h28 rfl (by decide) (by omega) (by omega)
          refine lv_iinc (v := r27) (lv' := [(11, .int r27), (9, .long x2), (7, .long x3), (5, .long x4), (3, .long x5), (1, .long x6), (0, .ref h0)]) hx hb dX1_slope_123 hl (k := 0) rfl h28.symm (by decide) rfl (fun ls hl => ?_)
          refine lv_goto (tgt := 16) hx hb dX1_slope_126 (by decide) ?_
          exact ih11 r27 x2 x3 x4 x5 x6 (by omega) (by omega) (by omega) _ _ hP hD hS ls (lv_sub hl [0, 1, 2, 3, 4, 5, 6] rfl)
        · have f26 : 0 < (h0_size_f x1.toNatClampNeg).toInt := z_lnle rfl (by decide) c_25
          refine lv_lload_n hx hb dX1_slope_35 rfl (lv_at hl 5 rfl) ?_
          refine lv_aload_n hx hb dX1_slope_36 rfl (lv_at hl 6 rfl) ?_
          refine va_get (D := (dC, dI)) (ci := 1) (v := .ref h0_size) (C := RX1) (T := TX1) (N := 3) hx hb hts hi1 hown hK hP 0 rfl rfl 0 (by decide) hk2 (fun _ h9 => h9) rfl dX1_slope_37 ?_
          refine lv_iload hx hb dX1_slope_40 (lv_at hl 0 rfl) ?_
          refine va_lald hx hb hK hP 1 2 rfl rfl (z_in rfl (by omega) (by omega)) dX1_slope_42 ?_
          refine lv_ladd hx hb dX1_slope_43 ?_
          refine lv_topl (fun r30 _ => ?_)
          refine lv_lstore_n (lv' := [(1, .long r30), (11, .int x1), (9, .long x2), (7, .long x3), (5, .long x4), (3, .long x5), (0, .ref h0)]) hx hb dX1_slope_44 rfl hl (by decide) rfl (fun ls hl => ?_)
          refine lv_lload_n hx hb dX1_slope_45 rfl (lv_at hl 5 rfl) ?_
          refine lv_aload_n hx hb dX1_slope_46 rfl (lv_at hl 6 rfl) ?_
          refine va_get (D := (dC, dI)) (ci := 1) (v := .ref h0_school) (C := RX1) (T := TX1) (N := 3) hx hb hts hi1 hown hK hP 0 rfl rfl 1 (by decide) hk3 (fun _ h9 => h9) rfl dX1_slope_47 ?_
          refine lv_iload hx hb dX1_slope_50 (lv_at hl 1 rfl) ?_
          refine va_lald hx hb hK hP 2 2 rfl rfl (z_in rfl (by omega) (by omega)) dX1_slope_52 ?_
          refine lv_ladd hx hb dX1_slope_53 ?_
          refine lv_topl (fun r31 _ => ?_)
          refine lv_lstore_n (lv' := [(3, .long r31), (1, .long r30), (11, .int x1), (9, .long x2), (7, .long x3), (5, .long x4), (0, .ref h0)]) hx hb dX1_slope_54 rfl hl (by decide) rfl (fun ls hl => ?_)
          refine lv_lload hx hb dX1_slope_55 (lv_at hl 5 rfl) ?_
          refine lv_aload_n hx hb dX1_slope_57 rfl (lv_at hl 6 rfl) ?_
          refine va_get (D := (dC, dI)) (ci := 1) (v := .ref h0_wage) (C := RX1) (T := TX1) (N := 3) hx hb hts hi1 hown hK hP 0 rfl rfl 2 (by decide) hk4 (fun _ h9 => h9) rfl dX1_slope_58 ?_
          refine lv_iload hx hb dX1_slope_61 (lv_at hl 2 rfl) ?_
          refine va_lald hx hb hK hP 3 2 rfl rfl (z_in rfl (by omega) (by omega)) dX1_slope_63 ?_
          refine lv_ladd hx hb dX1_slope_64 ?_
          refine lv_topl (fun r32 _ => ?_)
          refine lv_lstore (lv' := [(5, .long r32), (3, .long r31), (1, .long r30), (11, .int x1), (9, .long x2), (7, .long x3), (0, .ref h0)]) hx hb dX1_slope_65 hl (by decide) rfl (fun ls hl => ?_)
          refine lv_lload hx hb dX1_slope_67 (lv_at hl 5 rfl) ?_
          refine lv_aload_n hx hb dX1_slope_69 rfl (lv_at hl 6 rfl) ?_
          refine va_get (D := (dC, dI)) (ci := 1) (v := .ref h0_school) (C := RX1) (T := TX1) (N := 3) hx hb hts hi1 hown hK hP 0 rfl rfl 1 (by decide) hk3 (fun _ h9 => h9) rfl dX1_slope_70 ?_
          refine lv_iload hx hb dX1_slope_73 (lv_at hl 3 rfl) ?_
          refine va_lald hx hb hK hP 2 2 rfl rfl (z_in rfl (by omega) (by omega)) dX1_slope_75 ?_
          refine lv_aload_n hx hb dX1_slope_76 rfl (lv_at hl 6 rfl) ?_
          refine va_get (D := (dC, dI)) (ci := 1) (v := .ref h0_wage) (C := RX1) (T := TX1) (N := 3) hx hb hts hi1 hown hK hP 0 rfl rfl 2 (by decide) hk4 (fun _ h9 => h9) rfl dX1_slope_77 ?_
          refine lv_iload hx hb dX1_slope_80 (lv_at hl 3 rfl) ?_
          refine va_lald hx hb hK hP 3 2 rfl rfl (z_in rfl (by omega) (by omega)) dX1_slope_82 ?_
          refine lv_lmul hx hb dX1_slope_83 ?_
          refine lv_topl (fun r33 _ => ?_)
          refine lv_aload_n hx hb dX1_slope_84 rfl (lv_at hl 6 rfl) ?_
          refine va_get (D := (dC, dI)) (ci := 1) (v := .ref h0_size) (C := RX1) (T := TX1) (N := 3) hx hb hts hi1 hown hK hP 0 rfl rfl 0 (by decide) hk2 (fun _ h9 => h9) rfl dX1_slope_85 ?_
          refine lv_iload hx hb dX1_slope_88 (lv_at hl 3 rfl) ?_
          refine va_lald hx hb hK hP 1 2 rfl rfl (z_in rfl (by omega) (by omega)) dX1_slope_90 ?_
          refine lv_ldiv hx hb dX1_slope_91 (z_nl0 rfl (by omega)) ?_
          refine lv_topl (fun r34 h35 => ?_)
          refine lv_ladd hx hb dX1_slope_92 ?_
          refine lv_topl (fun r36 _ => ?_)
          refine lv_lstore (lv' := [(7, .long r36), (5, .long r32), (3, .long r31), (1, .long r30), (11, .int x1), (9, .long x2), (0, .ref h0)]) hx hb dX1_slope_93 hl (by decide) rfl (fun ls hl => ?_)
          refine lv_lload hx hb dX1_slope_95 (lv_at hl 5 rfl) ?_
          refine lv_aload_n hx hb dX1_slope_97 rfl (lv_at hl 6 rfl) ?_
          refine va_get (D := (dC, dI)) (ci := 1) (v := .ref h0_school) (C := RX1) (T := TX1) (N := 3) hx hb hts hi1 hown hK hP 0 rfl rfl 1 (by decide) hk3 (fun _ h9 => h9) rfl dX1_slope_98 ?_
          refine lv_iload hx hb dX1_slope_101 (lv_at hl 4 rfl) ?_
          refine va_lald hx hb hK hP 2 2 rfl rfl (z_in rfl (by omega) (by omega)) dX1_slope_103 ?_
          refine lv_aload_n hx hb dX1_slope_104 rfl (lv_at hl 6 rfl) ?_
          refine va_get (D := (dC, dI)) (ci := 1) (v := .ref h0_school) (C := RX1) (T := TX1) (N := 3) hx hb hts hi1 hown hK hP 0 rfl rfl 1 (by decide) hk3 (fun _ h9 => h9) rfl dX1_slope_105 ?_
          refine lv_iload hx hb dX1_slope_108 (lv_at hl 4 rfl) ?_
          refine va_lald hx hb hK hP 2 2 rfl rfl (z_in rfl (by omega) (by omega)) dX1_slope_110 ?_
          refine lv_lmul hx hb dX1_slope_111 ?_
          refine lv_topl (fun r37 _ => ?_)
          refine lv_aload_n hx hb dX1_slope_112 rfl (lv_at hl 6 rfl) ?_
          refine va_get (D := (dC, dI)) (ci := 1) (v := .ref h0_size) (C := RX1) (T := TX1) (N := 3) hx hb hts hi1 hown hK hP 0 rfl rfl 0 (by decide) hk2 (fun _ h9 => h9) rfl dX1_slope_113 ?_
          refine lv_iload hx hb dX1_slope_116 (lv_at hl 4 rfl) ?_
          refine va_lald hx hb hK hP 1 2 rfl rfl (z_in rfl (by omega) (by omega)) dX1_slope_118 ?_
          refine lv_ldiv hx hb dX1_slope_119 (z_nl0 rfl (by omega)) ?_
          refine lv_topl (fun r38 h39 => ?_)
          refine lv_ladd hx hb dX1_slope_120 ?_
          refine lv_topl (fun r40 _ => ?_)
          refine lv_lstore (lv' := [(9, .long r40), (7, .long r36), (5, .long r32), (3, .long r31), (1, .long r30), (11, .int x1), (0, .ref h0)]) hx hb dX1_slope_121 hl (by decide) rfl (fun ls hl => ?_)
          obtain ⟨r41, h42⟩ : ∃ q : Int32, q = x1 + 1 := ⟨_, rfl⟩
          have f43 : r41.toInt = x1.toInt + 1 := z_iadd h42 rfl (by decide) (by omega) (by omega)
          refine lv_iinc (v := r41) (lv' := [(11, .int r41), (9, .long r40), (7, .long r36), (5, .long r32), (3, .long r31), (1, .long r30), (0, .ref h0)]) hx hb dX1_slope_123 hl (k := 5) rfl h42.symm (by decide) rfl (fun ls hl => ?_)
          refine lv_goto (tgt := 16) hx hb dX1_slope_126 (by decide) ?_
          exact ih11 r41 r40 r36 r32 r31 r30 (by omega) (by omega) (by omega) _ _ hP hD hS ls (lv_sub hl [0, 1, 2, 3, 4, 5, 6] rfl)
  exact hlp7 (72 - (0 : Int) + 1).toNat 0 0 0 0 0 0 (by omega) (by omega) (by omega) _ _ hP hD hS ls (lv_sub hl [0, 1, 2, 3, 4, 5, 6] rfl)
set_option maxHeartbeats 8000000 in
set_option maxRecDepth 100000 in
theorem k_X1_takeAll (l : Launch) (dC : Nat → ClassId) (dI : Nat → Nat → Nat) (cB cI cJ cZ cP cQ : ClassId) (h0 : Nat) (h1 : Nat) (h0_size : Nat) (h0_school : Nat) (h0_wage : Nat) (h1_state : Nat) (h1_month : Nat) (h1_school : Nat) (h1_wage : Nat) (h1_gift : Nat) (h1_wish : Nat) (sz : Nat) (h0_size_f : Nat → Int64) (h0_school_f : Nat → Int64) (h0_wage_f : Nat → Int64) (h1_n : Int32) (h1_state_f : Nat → Int32) (h1_month_f : Nat → Int32) (h1_school_f : Nat → Int32) (h1_wage_f : Nat → Int32) (e0 : 0 ≤ h1_n.toInt) (e1 : h1_n.toInt ≤ 200) (z_h1_school : zR 0 300 h1_school_f) : Met l yX1_takeAll wsX1_takeAll ({ frames := 1, cells := 0, slots := 0, locals := 24 } : Room) (zPc [.ref h0, .ref h1] (dC, dI) (zT cB cI cJ cZ cP cQ) [(h0, .inr (1, [.ref h0_size, .ref h0_school, .ref h0_wage])), (h0_size, .inl (cJ, 72, .inr (.inl h0_size_f))), (h0_school, .inl (cJ, 72, .inr (.inl h0_school_f))), (h0_wage, .inl (cJ, 72, .inr (.inl h0_wage_f))), (h1, .inr (5, [.int h1_n, .ref h1_state, .ref h1_month, .ref h1_school, .ref h1_wage, .ref h1_gift, .ref h1_wish])), (h1_state, .inl (cI, 200, .inl h1_state_f)), (h1_month, .inl (cI, 200, .inl h1_month_f)), (h1_school, .inl (cI, 200, .inl h1_school_f)), (h1_wage, .inl (cI, 200, .inl h1_wage_f))] sz [] []) (va_Qv (fun (u : (Nat → Int64) × (Nat → Int64) × (Nat → Int64)) => True) (zB (dC, dI) (zT cB cI cJ cZ cP cQ) (fun u : (Nat → Int64) × (Nat → Int64) × (Nat → Int64) => [(h0, .inr (1, [.ref h0_size, .ref h0_school, .ref h0_wage])), (h0_size, .inl (cJ, 72, .inr (.inl u.1))), (h0_school, .inl (cJ, 72, .inr (.inl u.2.1))), (h0_wage, .inl (cJ, 72, .inr (.inl u.2.2))), (h1, .inr (5, [.int h1_n, .ref h1_state, .ref h1_month, .ref h1_school, .ref h1_wage, .ref h1_gift, .ref h1_wish])), (h1_state, .inl (cI, 200, .inl h1_state_f)), (h1_month, .inl (cI, 200, .inl h1_month_f)), (h1_school, .inl (cI, 200, .inl h1_school_f)), (h1_wage, .inl (cI, 200, .inl h1_wage_f))]) [(h0, .inr (1, [.ref h0_size, .ref h0_school, .ref h0_wage])), (h0_size, .inl (cJ, 72, .inr (.inl h0_size_f))), (h0_school, .inl (cJ, 72, .inr (.inl h0_school_f))), (h0_wage, .inl (cJ, 72, .inr (.inl h0_wage_f))), (h1, .inr (5, [.int h1_n, .ref h1_state, .ref h1_month, .ref h1_school, .ref h1_wage, .ref h1_gift, .ref h1_wish])), (h1_state, .inl (cI, 200, .inl h1_state_f)), (h1_month, .inl (cI, 200, .inl h1_month_f)), (h1_school, .inl (cI, 200, .inl h1_school_f)), (h1_wage, .inl (cI, 200, .inl h1_wage_f))] sz) (va_A [(h0, .inr (1, [.ref h0_size, .ref h0_school, .ref h0_wage])), (h0_size, .inl (cJ, 72, .inr (.inl h0_size_f))), (h0_school, .inl (cJ, 72, .inr (.inl h0_school_f))), (h0_wage, .inl (cJ, 72, .inr (.inl h0_wage_f))), (h1, .inr (5, [.int h1_n, .ref h1_state, .ref h1_month, .ref h1_school, .ref h1_wage, .ref h1_gift, .ref h1_wish])), (h1_state, .inl (cI, 200, .inl h1_state_f)), (h1_month, .inl (cI, 200, .inl h1_month_f)), (h1_school, .inl (cI, 200, .inl h1_school_f)), (h1_wage, .inl (cI, 200, .inl h1_wage_f))] sz)) 0 0 (va_A [(h0, .inr (1, [.ref h0_size, .ref h0_school, .ref h0_wage])), (h0_size, .inl (cJ, 72, .inr (.inl h0_size_f))), (h0_school, .inl (cJ, 72, .inr (.inl h0_school_f))), (h0_wage, .inl (cJ, 72, .inr (.inl h0_wage_f))), (h1, .inr (5, [.int h1_n, .ref h1_state, .ref h1_month, .ref h1_school, .ref h1_wage, .ref h1_gift, .ref h1_wish])), (h1_state, .inl (cI, 200, .inl h1_state_f)), (h1_month, .inl (cI, 200, .inl h1_month_f)), (h1_school, .inl (cI, 200, .inl h1_school_f)), (h1_wage, .inl (cI, 200, .inl h1_wage_f))] sz) := by
  refine z_enter (cc := cX1_takeAll) (maxL := 4) (ret := none) (by decide) rfl (Nat.le_of_ble_eq_true rfl) ?_
  intro p e s m below meth c A ls Q H locs hx hb hr hml hown hts hlocks hin hK hP hD hA hX hS hAe hQ hl
  have hown : s.vm.findClass RX1 = some m.cls := hown
  have hi1 : ∀ w ∈ wsX10, w ∈ wsX1_takeAll := fun w h => List.mem_cons_of_mem _ (List.mem_append_left _ (List.mem_append_right _ h))
  have hi5 : ∀ w ∈ wsX50, w ∈ wsX1_takeAll := fun w h => List.mem_cons_of_mem _ (List.mem_append_right _ h)
  have hk0 := hts (.fieldLink RX1 11 "MonthPush$Groups" "size" "[J") (by decide +kernel)
  have hk1 := hts (.fieldLink RX1 15 "MonthPush$Groups" "school" "[J") (by decide +kernel)
  have hk2 := hts (.fieldLink RX1 18 "MonthPush$Groups" "wage" "[J") (by decide +kernel)
  have hk3 := hts (.fieldLink RX1 27 "MonthPush$Sheets" "n" "I") (by decide +kernel)
  have hk4 := hts (.fieldLink RX1 33 "MonthPush$Sheets" "state" "[I") (by decide +kernel)
  have hk5 := hts (.fieldLink RX1 37 "MonthPush$Sheets" "month" "[I") (by decide +kernel)
  have hk6 := hts (.fieldLink RX1 40 "MonthPush$Sheets" "school" "[I") (by decide +kernel)
  have hk7 := hts (.fieldLink RX1 42 "MonthPush$Sheets" "wage" "[I") (by decide +kernel)
  have hl : lv_has ls 4 [(0, .ref h0), (1, .ref h1)] := hl
  refine lv_aload_n hx hb dX1_takeAll_0 rfl (lv_at hl 0 rfl) ?_
  refine va_get (D := (dC, dI)) (ci := 1) (v := .ref h0_size) (C := RX1) (T := TX1) (N := 3) hx hb hts hi1 hown hK hP 0 rfl rfl 0 (by decide) hk0 (fun _ h9 => h9) rfl dX1_takeAll_1 ?_
  refine lv_lconst (v := 0) hx hb dX1_takeAll_4 (by decide) ?_
  refine z_finv (w' := fun (u1 : Unit) => [(h0, .inr (1, [.ref h0_size, .ref h0_school, .ref h0_wage])), (h0_size, .inl (cJ, 72, .inr (.inl (fun _ => 0)))), (h0_school, .inl (cJ, 72, .inr (.inl h0_school_f))), (h0_wage, .inl (cJ, 72, .inr (.inl h0_wage_f))), (h1, .inr (5, [.int h1_n, .ref h1_state, .ref h1_month, .ref h1_school, .ref h1_wage, .ref h1_gift, .ref h1_wish])), (h1_state, .inl (cI, 200, .inl h1_state_f)), (h1_month, .inl (cI, 200, .inl h1_month_f)), (h1_school, .inl (cI, 200, .inl h1_school_f)), (h1_wage, .inl (cI, 200, .inl h1_wage_f))]) (va_runS (As := [.ref h0_size, .long 0]) (rest := []) ⟨hx, hb, hml, hown, hts⟩ (c_fillL l dC dI cB cI cJ cZ cP cQ h0_size H.size 72 h0_size_f 0 (by decide)) (va_cwS 2 hts gX1_takeAll_J7_fill_d0a16 rfl rfl rfl (by decide +kernel) ⟨Nat.le_of_ble_eq_true rfl, Nat.le_of_ble_eq_true rfl⟩) (z_pS hK hP hD zX_nil [1] (by decide) rfl) rfl rfl hl.1 rfl (lv_room (Nat.le_of_ble_eq_true rfl)) dX1_takeAll_5 ⟨Nat.le_of_ble_eq_true rfl, Nat.le_of_ble_eq_true rfl⟩) hP hD hS hA [1] [0, 2, 3, 4, 5, 6, 7, 8] [0, 8, 1, 2, 3, 4, 5, 6, 7] rfl rfl (by decide) (by decide) (fun _ => rfl) (by decide) (fun u1 H locs hp3 hP hD hS => ?_)
  have hP : va_P (dC, dI) vwCl [(h0, .inr (1, [.ref h0_size, .ref h0_school, .ref h0_wage])), (h0_size, .inl (cJ, 72, .inr (.inl (fun _ => 0)))), (h0_school, .inl (cJ, 72, .inr (.inl h0_school_f))), (h0_wage, .inl (cJ, 72, .inr (.inl h0_wage_f))), (h1, .inr (5, [.int h1_n, .ref h1_state, .ref h1_month, .ref h1_school, .ref h1_wage, .ref h1_gift, .ref h1_wish])), (h1_state, .inl (cI, 200, .inl h1_state_f)), (h1_month, .inl (cI, 200, .inl h1_month_f)), (h1_school, .inl (cI, 200, .inl h1_school_f)), (h1_wage, .inl (cI, 200, .inl h1_wage_f))] H := hP
  have hD : va_D A [(h0, .inr (1, [.ref h0_size, .ref h0_school, .ref h0_wage])), (h0_size, .inl (cJ, 72, .inr (.inl (fun _ => 0)))), (h0_school, .inl (cJ, 72, .inr (.inl h0_school_f))), (h0_wage, .inl (cJ, 72, .inr (.inl h0_wage_f))), (h1, .inr (5, [.int h1_n, .ref h1_state, .ref h1_month, .ref h1_school, .ref h1_wage, .ref h1_gift, .ref h1_wish])), (h1_state, .inl (cI, 200, .inl h1_state_f)), (h1_month, .inl (cI, 200, .inl h1_month_f)), (h1_school, .inl (cI, 200, .inl h1_school_f)), (h1_wage, .inl (cI, 200, .inl h1_wage_f))] := hD
  obtain ⟨g4, h5⟩ : ∃ g : Nat → Int64, g = fun _ => 0 := ⟨_, rfl⟩
  rw [← h5] at hP hD
  refine lv_aload_n hx hb dX1_takeAll_8 rfl (lv_at hl 0 rfl) ?_
  refine va_get (D := (dC, dI)) (ci := 1) (v := .ref h0_school) (C := RX1) (T := TX1) (N := 3) hx hb hts hi1 hown hK hP 0 rfl rfl 1 (by decide) hk1 (fun _ h9 => h9) rfl dX1_takeAll_9 ?_
  refine lv_lconst (v := 0) hx hb dX1_takeAll_12 (by decide) ?_
  refine z_finv (w' := fun (u6 : Unit) => [(h0, .inr (1, [.ref h0_size, .ref h0_school, .ref h0_wage])), (h0_size, .inl (cJ, 72, .inr (.inl g4))), (h0_school, .inl (cJ, 72, .inr (.inl (fun _ => 0)))), (h0_wage, .inl (cJ, 72, .inr (.inl h0_wage_f))), (h1, .inr (5, [.int h1_n, .ref h1_state, .ref h1_month, .ref h1_school, .ref h1_wage, .ref h1_gift, .ref h1_wish])), (h1_state, .inl (cI, 200, .inl h1_state_f)), (h1_month, .inl (cI, 200, .inl h1_month_f)), (h1_school, .inl (cI, 200, .inl h1_school_f)), (h1_wage, .inl (cI, 200, .inl h1_wage_f))]) (va_runS (As := [.ref h0_school, .long 0]) (rest := []) ⟨hx, hb, hml, hown, hts⟩ (c_fillL l dC dI cB cI cJ cZ cP cQ h0_school H.size 72 h0_school_f 0 (by decide)) (va_cwS 2 hts gX1_takeAll_J7_fill_d0a16 rfl rfl rfl (by decide +kernel) ⟨Nat.le_of_ble_eq_true rfl, Nat.le_of_ble_eq_true rfl⟩) (z_pS hK hP hD zX_nil [2] (by decide) rfl) rfl rfl hl.1 rfl (lv_room (Nat.le_of_ble_eq_true rfl)) dX1_takeAll_13 ⟨Nat.le_of_ble_eq_true rfl, Nat.le_of_ble_eq_true rfl⟩) hP hD hS hA [2] [0, 1, 3, 4, 5, 6, 7, 8] [0, 1, 8, 2, 3, 4, 5, 6, 7] rfl rfl (by decide) (by decide) (fun _ => rfl) (by decide) (fun u6 H locs hp8 hP hD hS => ?_)
  have hP : va_P (dC, dI) vwCl [(h0, .inr (1, [.ref h0_size, .ref h0_school, .ref h0_wage])), (h0_size, .inl (cJ, 72, .inr (.inl g4))), (h0_school, .inl (cJ, 72, .inr (.inl (fun _ => 0)))), (h0_wage, .inl (cJ, 72, .inr (.inl h0_wage_f))), (h1, .inr (5, [.int h1_n, .ref h1_state, .ref h1_month, .ref h1_school, .ref h1_wage, .ref h1_gift, .ref h1_wish])), (h1_state, .inl (cI, 200, .inl h1_state_f)), (h1_month, .inl (cI, 200, .inl h1_month_f)), (h1_school, .inl (cI, 200, .inl h1_school_f)), (h1_wage, .inl (cI, 200, .inl h1_wage_f))] H := hP
  have hD : va_D A [(h0, .inr (1, [.ref h0_size, .ref h0_school, .ref h0_wage])), (h0_size, .inl (cJ, 72, .inr (.inl g4))), (h0_school, .inl (cJ, 72, .inr (.inl (fun _ => 0)))), (h0_wage, .inl (cJ, 72, .inr (.inl h0_wage_f))), (h1, .inr (5, [.int h1_n, .ref h1_state, .ref h1_month, .ref h1_school, .ref h1_wage, .ref h1_gift, .ref h1_wish])), (h1_state, .inl (cI, 200, .inl h1_state_f)), (h1_month, .inl (cI, 200, .inl h1_month_f)), (h1_school, .inl (cI, 200, .inl h1_school_f)), (h1_wage, .inl (cI, 200, .inl h1_wage_f))] := hD
  obtain ⟨g9, h10⟩ : ∃ g : Nat → Int64, g = fun _ => 0 := ⟨_, rfl⟩
  rw [← h10] at hP hD
  refine lv_aload_n hx hb dX1_takeAll_16 rfl (lv_at hl 0 rfl) ?_
  refine va_get (D := (dC, dI)) (ci := 1) (v := .ref h0_wage) (C := RX1) (T := TX1) (N := 3) hx hb hts hi1 hown hK hP 0 rfl rfl 2 (by decide) hk2 (fun _ h9 => h9) rfl dX1_takeAll_17 ?_
  refine lv_lconst (v := 0) hx hb dX1_takeAll_20 (by decide) ?_
  refine z_finv (w' := fun (u11 : Unit) => [(h0, .inr (1, [.ref h0_size, .ref h0_school, .ref h0_wage])), (h0_size, .inl (cJ, 72, .inr (.inl g4))), (h0_school, .inl (cJ, 72, .inr (.inl g9))), (h0_wage, .inl (cJ, 72, .inr (.inl (fun _ => 0)))), (h1, .inr (5, [.int h1_n, .ref h1_state, .ref h1_month, .ref h1_school, .ref h1_wage, .ref h1_gift, .ref h1_wish])), (h1_state, .inl (cI, 200, .inl h1_state_f)), (h1_month, .inl (cI, 200, .inl h1_month_f)), (h1_school, .inl (cI, 200, .inl h1_school_f)), (h1_wage, .inl (cI, 200, .inl h1_wage_f))]) (va_runS (As := [.ref h0_wage, .long 0]) (rest := []) ⟨hx, hb, hml, hown, hts⟩ (c_fillL l dC dI cB cI cJ cZ cP cQ h0_wage H.size 72 h0_wage_f 0 (by decide)) (va_cwS 2 hts gX1_takeAll_J7_fill_d0a16 rfl rfl rfl (by decide +kernel) ⟨Nat.le_of_ble_eq_true rfl, Nat.le_of_ble_eq_true rfl⟩) (z_pS hK hP hD zX_nil [3] (by decide) rfl) rfl rfl hl.1 rfl (lv_room (Nat.le_of_ble_eq_true rfl)) dX1_takeAll_21 ⟨Nat.le_of_ble_eq_true rfl, Nat.le_of_ble_eq_true rfl⟩) hP hD hS hA [3] [0, 1, 2, 4, 5, 6, 7, 8] [0, 1, 2, 8, 3, 4, 5, 6, 7] rfl rfl (by decide) (by decide) (fun _ => rfl) (by decide) (fun u11 H locs hp13 hP hD hS => ?_)
  have hP : va_P (dC, dI) vwCl [(h0, .inr (1, [.ref h0_size, .ref h0_school, .ref h0_wage])), (h0_size, .inl (cJ, 72, .inr (.inl g4))), (h0_school, .inl (cJ, 72, .inr (.inl g9))), (h0_wage, .inl (cJ, 72, .inr (.inl (fun _ => 0)))), (h1, .inr (5, [.int h1_n, .ref h1_state, .ref h1_month, .ref h1_school, .ref h1_wage, .ref h1_gift, .ref h1_wish])), (h1_state, .inl (cI, 200, .inl h1_state_f)), (h1_month, .inl (cI, 200, .inl h1_month_f)), (h1_school, .inl (cI, 200, .inl h1_school_f)), (h1_wage, .inl (cI, 200, .inl h1_wage_f))] H := hP
  have hD : va_D A [(h0, .inr (1, [.ref h0_size, .ref h0_school, .ref h0_wage])), (h0_size, .inl (cJ, 72, .inr (.inl g4))), (h0_school, .inl (cJ, 72, .inr (.inl g9))), (h0_wage, .inl (cJ, 72, .inr (.inl (fun _ => 0)))), (h1, .inr (5, [.int h1_n, .ref h1_state, .ref h1_month, .ref h1_school, .ref h1_wage, .ref h1_gift, .ref h1_wish])), (h1_state, .inl (cI, 200, .inl h1_state_f)), (h1_month, .inl (cI, 200, .inl h1_month_f)), (h1_school, .inl (cI, 200, .inl h1_school_f)), (h1_wage, .inl (cI, 200, .inl h1_wage_f))] := hD
  obtain ⟨g14, h15⟩ : ∃ g : Nat → Int64, g = fun _ => 0 := ⟨_, rfl⟩
  rw [← h15] at hP hD
  refine lv_iconst (v := 0) hx hb dX1_takeAll_24 (by decide) ?_
  refine lv_istore_n (lv' := [(2, .int 0), (0, .ref h0), (1, .ref h1)]) hx hb dX1_takeAll_25 rfl hl (by decide) rfl (fun ls hl => ?_)
  have hlp20 : ∀ (n : Nat) (x16 : Int32) (g17 : Nat → Int64) (g18 : Nat → Int64) (g19 : Nat → Int64), h1_n.toInt - x16.toInt < (n : Int) → 0 ≤ x16.toInt → x16.toInt ≤ h1_n.toInt → ∀ (H : Heap) (locs : List Loc), va_P (dC, dI) vwCl [(h0, .inr (1, [.ref h0_size, .ref h0_school, .ref h0_wage])), (h0_size, .inl (cJ, 72, .inr (.inl g17))), (h0_school, .inl (cJ, 72, .inr (.inl g18))), (h0_wage, .inl (cJ, 72, .inr (.inl g19))), (h1, .inr (5, [.int h1_n, .ref h1_state, .ref h1_month, .ref h1_school, .ref h1_wage, .ref h1_gift, .ref h1_wish])), (h1_state, .inl (cI, 200, .inl h1_state_f)), (h1_month, .inl (cI, 200, .inl h1_month_f)), (h1_school, .inl (cI, 200, .inl h1_school_f)), (h1_wage, .inl (cI, 200, .inl h1_wage_f))] H → va_D A [(h0, .inr (1, [.ref h0_size, .ref h0_school, .ref h0_wage])), (h0_size, .inl (cJ, 72, .inr (.inl g17))), (h0_school, .inl (cJ, 72, .inr (.inl g18))), (h0_wage, .inl (cJ, 72, .inr (.inl g19))), (h1, .inr (5, [.int h1_n, .ref h1_state, .ref h1_month, .ref h1_school, .ref h1_wage, .ref h1_gift, .ref h1_wish])), (h1_state, .inl (cI, 200, .inl h1_state_f)), (h1_month, .inl (cI, 200, .inl h1_month_f)), (h1_school, .inl (cI, 200, .inl h1_school_f)), (h1_wage, .inl (cI, 200, .inl h1_wage_f))] → va_S A s.heap H locs → ∀ (ls : Array Slot), lv_has ls 4 [(2, .int x16), (0, .ref h0), (1, .ref h1)] → W p l e ({ frames := 1, cells := 0, slots := 0, locals := 24 } : Room) s m ([.ref h0, .ref h1] : List Value).toArray below meth c H locs 0 0 Q (F0 m 26 ls []) := by
    intro n
    induction n with
    | zero =>
      intro x16 g17 g18 g19 hm23 k21 k22
      exact absurd hm23 (by omega)
    | succ n ih24 =>
      intro x16 g17 g18 g19 hm23 k21 k22 H locs hP hD hS ls hl
      refine lv_iload_n hx hb dX1_takeAll_26 rfl (lv_at hl 0 rfl) ?_
      refine lv_aload_n hx hb dX1_takeAll_27 rfl (lv_at hl 2 rfl) ?_
      refine va_get (D := (dC, dI)) (ci := 5) (v := .int h1_n) (C := RX5) (T := TX5) (N := 7) hx hb hts hi5 hown hK hP 4 rfl rfl 0 (by decide) hk3 (fun _ h9 => h9) rfl dX1_takeAll_28 ?_
      refine lv_icmp_ge (tgt := 111) hx hb dX1_takeAll_31 (by decide) (fun c_25 => ?_) (fun c_25 => ?_)
      · have f26 : h1_n.toInt ≤ x16.toInt := z_le rfl rfl c_25
        exact y_vret ((g17, g18, g19) : (Nat → Int64) × (Nat → Int64) × (Nat → Int64)) hx hb hr hlocks hK hP hD hS hAe hQ rfl trivial dX1_takeAll_111
      · have f26 : x16.toInt < h1_n.toInt := z_nle rfl rfl c_25
        refine lv_aload_n hx hb dX1_takeAll_34 rfl (lv_at hl 2 rfl) ?_
        refine va_get (D := (dC, dI)) (ci := 5) (v := .ref h1_state) (C := RX5) (T := TX5) (N := 7) hx hb hts hi5 hown hK hP 4 rfl rfl 1 (by decide) hk4 (fun _ h9 => h9) rfl dX1_takeAll_35 ?_
        refine lv_iload_n hx hb dX1_takeAll_38 rfl (lv_at hl 0 rfl) ?_
        refine va_iald hx hb hK hP 5 1 rfl rfl (z_in rfl (by omega) (by omega)) dX1_takeAll_39 ?_
        refine lv_bipush (v := 12) hx hb dX1_takeAll_40 (by decide) ?_
        refine lv_imul hx hb dX1_takeAll_42 ?_
        refine lv_topi (fun r27 _ => ?_)
        refine lv_aload_n hx hb dX1_takeAll_43 rfl (lv_at hl 2 rfl) ?_
        refine va_get (D := (dC, dI)) (ci := 5) (v := .ref h1_month) (C := RX5) (T := TX5) (N := 7) hx hb hts hi5 hown hK hP 4 rfl rfl 2 (by decide) hk5 (fun _ h9 => h9) rfl dX1_takeAll_44 ?_
        refine lv_iload_n hx hb dX1_takeAll_47 rfl (lv_at hl 0 rfl) ?_
        refine va_iald hx hb hK hP 6 1 rfl rfl (z_in rfl (by omega) (by omega)) dX1_takeAll_48 ?_
        refine lv_iadd hx hb dX1_takeAll_49 ?_
        refine lv_topi (fun r28 _ => ?_)
        refine lv_iconst (v := 1) hx hb dX1_takeAll_50 (by decide) ?_
        refine lv_isub hx hb dX1_takeAll_51 ?_
        refine lv_topi (fun r29 _ => ?_)
        refine lv_istore_n (lv' := [(3, .int r29), (2, .int x16), (0, .ref h0), (1, .ref h1)]) hx hb dX1_takeAll_52 rfl hl (by decide) rfl (fun ls hl => ?_)
        refine lv_iload_n hx hb dX1_takeAll_53 rfl (lv_at hl 0 rfl) ?_
        refine lv_if_lt (tgt := 105) hx hb dX1_takeAll_54 (by decide) (fun c_30 => ?_) (fun c_30 => ?_)
        · have f31 : r29.toInt < 0 := z_lt rfl (by decide) c_30
          obtain ⟨r32, h33⟩ : ∃ q : Int32, q = x16 + 1 := ⟨_, rfl⟩
          have f34 : r32.toInt = x16.toInt + 1 := z_iadd h33 rfl (by decide) (by omega) (by omega)
          refine lv_iinc (v := r32) (lv' := [(2, .int r32), (3, .int r29), (0, .ref h0), (1, .ref h1)]) hx hb dX1_takeAll_105 hl (k := 1) rfl h33.symm (by decide) rfl (fun ls hl => ?_)
          refine lv_goto (tgt := 26) hx hb dX1_takeAll_108 (by decide) ?_
          exact ih24 r32 g17 g18 g19 (by omega) (by omega) (by omega) _ _ hP hD hS ls (lv_sub hl [0, 2, 3] rfl)
        · have f31 : 0 ≤ r29.toInt := z_nlt rfl (by decide) c_30
          refine lv_iload_n hx hb dX1_takeAll_57 rfl (lv_at hl 0 rfl) ?_
          refine lv_bipush (v := 72) hx hb dX1_takeAll_58 (by decide) ?_
          refine lv_icmp_ge (tgt := 105) hx hb dX1_takeAll_60 (by decide) (fun c_35 => ?_) (fun c_35 => ?_)
          · have f36 : 72 ≤ r29.toInt := z_le (by decide) rfl c_35
            obtain ⟨r37, h38⟩ : ∃ q : Int32, q = x16 + 1 := ⟨_, rfl⟩
            have f39 : r37.toInt = x16.toInt + 1 := z_iadd h38 rfl (by decide) (by omega) (by omega)
            refine lv_iinc (v := r37) (lv' := [(2, .int r37), (3, .int r29), (0, .ref h0), (1, .ref h1)]) hx hb dX1_takeAll_105 hl (k := 1) rfl h38.symm (by decide) rfl (fun ls hl => ?_)
            refine lv_goto (tgt := 26) hx hb dX1_takeAll_108 (by decide) ?_
            exact ih24 r37 g17 g18 g19 (by omega) (by omega) (by omega) _ _ hP hD hS ls (lv_sub hl [0, 2, 3] rfl)
          · have f36 : r29.toInt < 72 := z_nle (by decide) rfl c_35
            refine lv_aload_n hx hb dX1_takeAll_63 rfl (lv_at hl 2 rfl) ?_
            refine va_get (D := (dC, dI)) (ci := 1) (v := .ref h0_size) (C := RX1) (T := TX1) (N := 3) hx hb hts hi1 hown hK hP 0 rfl rfl 0 (by decide) hk0 (fun _ h9 => h9) rfl dX1_takeAll_64 ?_
            refine lv_iload_n hx hb dX1_takeAll_67 rfl (lv_at hl 0 rfl) ?_
            refine lv_dup2_11 hx hb dX1_takeAll_68 rfl rfl ?_
            refine va_lald hx hb hK hP 1 2 rfl rfl (z_in rfl (by omega) (by omega)) dX1_takeAll_69 ?_
            refine lv_lconst (v := 1) hx hb dX1_takeAll_70 (by decide) ?_
            refine lv_ladd hx hb dX1_takeAll_71 ?_
            refine lv_topl (fun r40 _ => ?_)
            refine y_last hx hb hK hP hD hS 1 2 rfl rfl (z_in rfl (by omega) (by omega)) dX1_takeAll_72 (fun H locs g41 h42 hP hD hS => ?_)
            have hP : va_P (dC, dI) vwCl [(h0, .inr (1, [.ref h0_size, .ref h0_school, .ref h0_wage])), (h0_size, .inl (cJ, 72, .inr (.inl g41))), (h0_school, .inl (cJ, 72, .inr (.inl g18))), (h0_wage, .inl (cJ, 72, .inr (.inl g19))), (h1, .inr (5, [.int h1_n, .ref h1_state, .ref h1_month, .ref h1_school, .ref h1_wage, .ref h1_gift, .ref h1_wish])), (h1_state, .inl (cI, 200, .inl h1_state_f)), (h1_month, .inl (cI, 200, .inl h1_month_f)), (h1_school, .inl (cI, 200, .inl h1_school_f)), (h1_wage, .inl (cI, 200, .inl h1_wage_f))] H := hP
            have hD : va_D A [(h0, .inr (1, [.ref h0_size, .ref h0_school, .ref h0_wage])), (h0_size, .inl (cJ, 72, .inr (.inl g41))), (h0_school, .inl (cJ, 72, .inr (.inl g18))), (h0_wage, .inl (cJ, 72, .inr (.inl g19))), (h1, .inr (5, [.int h1_n, .ref h1_state, .ref h1_month, .ref h1_school, .ref h1_wage, .ref h1_gift, .ref h1_wish])), (h1_state, .inl (cI, 200, .inl h1_state_f)), (h1_month, .inl (cI, 200, .inl h1_month_f)), (h1_school, .inl (cI, 200, .inl h1_school_f)), (h1_wage, .inl (cI, 200, .inl h1_wage_f))] := hD
            refine lv_aload_n hx hb dX1_takeAll_73 rfl (lv_at hl 2 rfl) ?_
            refine va_get (D := (dC, dI)) (ci := 1) (v := .ref h0_school) (C := RX1) (T := TX1) (N := 3) hx hb hts hi1 hown hK hP 0 rfl rfl 1 (by decide) hk1 (fun _ h9 => h9) rfl dX1_takeAll_74 ?_
            refine lv_iload_n hx hb dX1_takeAll_77 rfl (lv_at hl 0 rfl) ?_
            refine lv_dup2_11 hx hb dX1_takeAll_78 rfl rfl ?_
            refine va_lald hx hb hK hP 2 2 rfl rfl (z_in rfl (by omega) (by omega)) dX1_takeAll_79 ?_
            refine lv_aload_n hx hb dX1_takeAll_80 rfl (lv_at hl 3 rfl) ?_
            refine va_get (D := (dC, dI)) (ci := 5) (v := .ref h1_school) (C := RX5) (T := TX5) (N := 7) hx hb hts hi5 hown hK hP 4 rfl rfl 3 (by decide) hk6 (fun _ h9 => h9) rfl dX1_takeAll_81 ?_
            refine lv_iload_n hx hb dX1_takeAll_84 rfl (lv_at hl 1 rfl) ?_
            refine va_iald hx hb hK hP 7 1 rfl rfl (z_in rfl (by omega) (by omega)) dX1_takeAll_85 ?_
            have f43 : 0 ≤ (h1_school_f x16.toNatClampNeg).toInt ∧ (h1_school_f x16.toNatClampNeg).toInt ≤ 300 := z_h1_school _
            refine lv_i2l hx hb dX1_takeAll_86 rfl ?_
            refine lv_topl (fun r44 h45 => ?_)
            have f46 : r44.toInt = ((h1_school_f x16.toNatClampNeg).toInt) := z_i2lT h45 rfl
            refine lv_ladd hx hb dX1_takeAll_87 ?_
            refine lv_topl (fun r47 _ => ?_)
            refine y_last hx hb hK hP hD hS 2 2 rfl rfl (z_in rfl (by omega) (by omega)) dX1_takeAll_88 (fun H locs g48 h49 hP hD hS => ?_)
            have hP : va_P (dC, dI) vwCl [(h0, .inr (1, [.ref h0_size, .ref h0_school, .ref h0_wage])), (h0_size, .inl (cJ, 72, .inr (.inl g41))), (h0_school, .inl (cJ, 72, .inr (.inl g48))), (h0_wage, .inl (cJ, 72, .inr (.inl g19))), (h1, .inr (5, [.int h1_n, .ref h1_state, .ref h1_month, .ref h1_school, .ref h1_wage, .ref h1_gift, .ref h1_wish])), (h1_state, .inl (cI, 200, .inl h1_state_f)), (h1_month, .inl (cI, 200, .inl h1_month_f)), (h1_school, .inl (cI, 200, .inl h1_school_f)), (h1_wage, .inl (cI, 200, .inl h1_wage_f))] H := hP
            have hD : va_D A [(h0, .inr (1, [.ref h0_size, .ref h0_school, .ref h0_wage])), (h0_size, .inl (cJ, 72, .inr (.inl g41))), (h0_school, .inl (cJ, 72, .inr (.inl g48))), (h0_wage, .inl (cJ, 72, .inr (.inl g19))), (h1, .inr (5, [.int h1_n, .ref h1_state, .ref h1_month, .ref h1_school, .ref h1_wage, .ref h1_gift, .ref h1_wish])), (h1_state, .inl (cI, 200, .inl h1_state_f)), (h1_month, .inl (cI, 200, .inl h1_month_f)), (h1_school, .inl (cI, 200, .inl h1_school_f)), (h1_wage, .inl (cI, 200, .inl h1_wage_f))] := hD
            refine lv_aload_n hx hb dX1_takeAll_89 rfl (lv_at hl 2 rfl) ?_
            refine va_get (D := (dC, dI)) (ci := 1) (v := .ref h0_wage) (C := RX1) (T := TX1) (N := 3) hx hb hts hi1 hown hK hP 0 rfl rfl 2 (by decide) hk2 (fun _ h9 => h9) rfl dX1_takeAll_90 ?_
            refine lv_iload_n hx hb dX1_takeAll_93 rfl (lv_at hl 0 rfl) ?_
            refine lv_dup2_11 hx hb dX1_takeAll_94 rfl rfl ?_
            refine va_lald hx hb hK hP 3 2 rfl rfl (z_in rfl (by omega) (by omega)) dX1_takeAll_95 ?_
            refine lv_aload_n hx hb dX1_takeAll_96 rfl (lv_at hl 3 rfl) ?_
            refine va_get (D := (dC, dI)) (ci := 5) (v := .ref h1_wage) (C := RX5) (T := TX5) (N := 7) hx hb hts hi5 hown hK hP 4 rfl rfl 4 (by decide) hk7 (fun _ h9 => h9) rfl dX1_takeAll_97 ?_
            refine lv_iload_n hx hb dX1_takeAll_100 rfl (lv_at hl 1 rfl) ?_
            refine va_iald hx hb hK hP 8 1 rfl rfl (z_in rfl (by omega) (by omega)) dX1_takeAll_101 ?_
            refine lv_i2l hx hb dX1_takeAll_102 rfl ?_
            have f50 : -2147483648 ≤ ((h1_wage_f x16.toNatClampNeg).toInt) ∧ ((h1_wage_f x16.toNatClampNeg).toInt) < 2147483648 := z_rngI rfl
            refine lv_topl (fun r51 h52 => ?_)
            have f53 : r51.toInt = ((h1_wage_f x16.toNatClampNeg).toInt) := z_i2lT h52 rfl
            refine lv_ladd hx hb dX1_takeAll_103 ?_
            refine lv_topl (fun r54 _ => ?_)
            refine y_last hx hb hK hP hD hS 3 2 rfl rfl (z_in rfl (by omega) (by omega)) dX1_takeAll_104 (fun H locs g55 h56 hP hD hS => ?_)
            have hP : va_P (dC, dI) vwCl [(h0, .inr (1, [.ref h0_size, .ref h0_school, .ref h0_wage])), (h0_size, .inl (cJ, 72, .inr (.inl g41))), (h0_school, .inl (cJ, 72, .inr (.inl g48))), (h0_wage, .inl (cJ, 72, .inr (.inl g55))), (h1, .inr (5, [.int h1_n, .ref h1_state, .ref h1_month, .ref h1_school, .ref h1_wage, .ref h1_gift, .ref h1_wish])), (h1_state, .inl (cI, 200, .inl h1_state_f)), (h1_month, .inl (cI, 200, .inl h1_month_f)), (h1_school, .inl (cI, 200, .inl h1_school_f)), (h1_wage, .inl (cI, 200, .inl h1_wage_f))] H := hP
            have hD : va_D A [(h0, .inr (1, [.ref h0_size, .ref h0_school, .ref h0_wage])), (h0_size, .inl (cJ, 72, .inr (.inl g41))), (h0_school, .inl (cJ, 72, .inr (.inl g48))), (h0_wage, .inl (cJ, 72, .inr (.inl g55))), (h1, .inr (5, [.int h1_n, .ref h1_state, .ref h1_month, .ref h1_school, .ref h1_wage, .ref h1_gift, .ref h1_wish])), (h1_state, .inl (cI, 200, .inl h1_state_f)), (h1_month, .inl (cI, 200, .inl h1_month_f)), (h1_school, .inl (cI, 200, .inl h1_school_f)), (h1_wage, .inl (cI, 200, .inl h1_wage_f))] := hD
            obtain ⟨r57, h58⟩ : ∃ q : Int32, q = x16 + 1 := ⟨_, rfl⟩
            have f59 : r57.toInt = x16.toInt + 1 := z_iadd h58 rfl (by decide) (by omega) (by omega)
            refine lv_iinc (v := r57) (lv' := [(2, .int r57), (3, .int r29), (0, .ref h0), (1, .ref h1)]) hx hb dX1_takeAll_105 hl (k := 1) rfl h58.symm (by decide) rfl (fun ls hl => ?_)
            refine lv_goto (tgt := 26) hx hb dX1_takeAll_108 (by decide) ?_
            exact ih24 r57 g41 g48 g55 (by omega) (by omega) (by omega) _ _ hP hD hS ls (lv_sub hl [0, 2, 3] rfl)
  exact hlp20 (h1_n.toInt - (0 : Int) + 1).toNat 0 g4 g9 g14 (by omega) (by omega) (by omega) _ _ hP hD hS ls (lv_sub hl [0, 1, 2] rfl)
set_option maxHeartbeats 8000000 in
set_option maxRecDepth 100000 in
theorem k_X3_addLaw (l : Launch) (dC : Nat → ClassId) (dI : Nat → Nat → Nat) (cB cI cJ cZ cP cQ : ClassId) (h0 : Nat) (h0_enter : Nat) (h0_leave : Nat) (h0_share : Nat) (h0_gift : Nat) (h0_wish : Nat) (h0_spread : Nat) (h0_leakBy : Nat) (h0_joint : Nat) (h0_part : Nat) (sz : Nat) (p1 : Int32) (p2 : Int32) (h0_lines : Int32) (h0_laws : Int32) (h0_sorts : Int32) (h0_shares : Int32) (h0_parts : Int32) (h0_noise : Int32) (h0_noiseTold : Int32) (h0_enter_f : Nat → Int32) (h0_leave_f : Nat → Int32) (e0 : 0 ≤ h0_laws.toInt) (e1 : h0_laws.toInt ≤ 6) (e2 : 0 ≤ h0_sorts.toInt) (e3 : h0_sorts.toInt ≤ 8) (e4 : 0 ≤ h0_parts.toInt) (e5 : h0_parts.toInt ≤ 120) (e6 : 0 ≤ h0_noiseTold.toInt) (e7 : h0_noiseTold.toInt ≤ 1) : Met l yX3_addLaw wsX3_addLaw ({ frames := 0, cells := 0, slots := 0, locals := 0 } : Room) (zPc [.ref h0, .int p1, .int p2] (dC, dI) (zT cB cI cJ cZ cP cQ) [(h0, .inr (3, [.int h0_lines, .int h0_laws, .int h0_sorts, .int h0_shares, .int h0_parts, .int h0_noise, .int h0_noiseTold, .ref h0_enter, .ref h0_leave, .ref h0_share, .ref h0_gift, .ref h0_wish, .ref h0_spread, .ref h0_leakBy, .ref h0_joint, .ref h0_part])), (h0_enter, .inl (cI, 6, .inl h0_enter_f)), (h0_leave, .inl (cI, 6, .inl h0_leave_f))] sz [] []) (va_Qv (fun (u : Int32 × (Nat → Int32) × (Nat → Int32)) => 0 ≤ u.1.toInt ∧ u.1.toInt ≤ 6 ∧ 0 ≤ h0_sorts.toInt ∧ h0_sorts.toInt ≤ 8 ∧ 0 ≤ h0_parts.toInt ∧ h0_parts.toInt ≤ 120 ∧ 0 ≤ h0_noiseTold.toInt ∧ h0_noiseTold.toInt ≤ 1) (zB (dC, dI) (zT cB cI cJ cZ cP cQ) (fun u : Int32 × (Nat → Int32) × (Nat → Int32) => [(h0, .inr (3, [.int h0_lines, .int u.1, .int h0_sorts, .int h0_shares, .int h0_parts, .int h0_noise, .int h0_noiseTold, .ref h0_enter, .ref h0_leave, .ref h0_share, .ref h0_gift, .ref h0_wish, .ref h0_spread, .ref h0_leakBy, .ref h0_joint, .ref h0_part])), (h0_enter, .inl (cI, 6, .inl u.2.1)), (h0_leave, .inl (cI, 6, .inl u.2.2))]) [(h0, .inr (3, [.int h0_lines, .int h0_laws, .int h0_sorts, .int h0_shares, .int h0_parts, .int h0_noise, .int h0_noiseTold, .ref h0_enter, .ref h0_leave, .ref h0_share, .ref h0_gift, .ref h0_wish, .ref h0_spread, .ref h0_leakBy, .ref h0_joint, .ref h0_part])), (h0_enter, .inl (cI, 6, .inl h0_enter_f)), (h0_leave, .inl (cI, 6, .inl h0_leave_f))] sz) (va_A [(h0, .inr (3, [.int h0_lines, .int h0_laws, .int h0_sorts, .int h0_shares, .int h0_parts, .int h0_noise, .int h0_noiseTold, .ref h0_enter, .ref h0_leave, .ref h0_share, .ref h0_gift, .ref h0_wish, .ref h0_spread, .ref h0_leakBy, .ref h0_joint, .ref h0_part])), (h0_enter, .inl (cI, 6, .inl h0_enter_f)), (h0_leave, .inl (cI, 6, .inl h0_leave_f))] sz)) 0 0 (va_A [(h0, .inr (3, [.int h0_lines, .int h0_laws, .int h0_sorts, .int h0_shares, .int h0_parts, .int h0_noise, .int h0_noiseTold, .ref h0_enter, .ref h0_leave, .ref h0_share, .ref h0_gift, .ref h0_wish, .ref h0_spread, .ref h0_leakBy, .ref h0_joint, .ref h0_part])), (h0_enter, .inl (cI, 6, .inl h0_enter_f)), (h0_leave, .inl (cI, 6, .inl h0_leave_f))] sz) := by
  refine z_enter (cc := cX3_addLaw) (maxL := 3) (ret := none) (by decide) rfl (Nat.le_of_ble_eq_true rfl) ?_
  intro p e s m below meth c A ls Q H locs hx hb hr hml hown hts hlocks hin hK hP hD hA hX hS hAe hQ hl
  have hown : s.vm.findClass RX3 = some m.cls := hown
  have hi3 : ∀ w ∈ wsX30, w ∈ wsX3_addLaw := fun w h => List.mem_cons_of_mem _ (List.mem_append_right _ h)
  have hk0 := hts (.fieldLink RX3 49 "MonthPush$Land" "laws" "I") (by decide +kernel)
  have hk1 := hts (.fieldLink RX3 9 "MonthPush$Land" "enter" "[I") (by decide +kernel)
  have hk2 := hts (.fieldLink RX3 15 "MonthPush$Land" "leave" "[I") (by decide +kernel)
  have hl : lv_has ls 3 [(0, .ref h0), (1, .int p1), (2, .int p2)] := hl
  refine lv_aload_n hx hb dX3_addLaw_0 rfl (lv_at hl 0 rfl) ?_
  refine va_get (D := (dC, dI)) (ci := 3) (v := .int h0_laws) (C := RX3) (T := TX3) (N := 16) hx hb hts hi3 hown hK hP 0 rfl rfl 1 (by decide) hk0 (fun _ h9 => h9) rfl dX3_addLaw_1 ?_
  refine lv_bipush (v := 6) hx hb dX3_addLaw_4 (by decide) ?_
  refine lv_icmp_ge (tgt := 39) hx hb dX3_addLaw_6 (by decide) (fun c_1 => ?_) (fun c_1 => ?_)
  · have f2 : 6 ≤ h0_laws.toInt := z_le (by decide) rfl c_1
    exact y_vret ((h0_laws, h0_enter_f, h0_leave_f) : Int32 × (Nat → Int32) × (Nat → Int32)) hx hb hr hlocks hK hP hD hS hAe hQ rfl ⟨(show 0 ≤ h0_laws.toInt from by omega), (show h0_laws.toInt ≤ 6 from by omega), (show 0 ≤ h0_sorts.toInt from by omega), (show h0_sorts.toInt ≤ 8 from by omega), (show 0 ≤ h0_parts.toInt from by omega), (show h0_parts.toInt ≤ 120 from by omega), (show 0 ≤ h0_noiseTold.toInt from by omega), (show h0_noiseTold.toInt ≤ 1 from by omega)⟩ dX3_addLaw_39
  · have f2 : h0_laws.toInt < 6 := z_nle (by decide) rfl c_1
    refine lv_aload_n hx hb dX3_addLaw_9 rfl (lv_at hl 0 rfl) ?_
    refine va_get (D := (dC, dI)) (ci := 3) (v := .ref h0_enter) (C := RX3) (T := TX3) (N := 16) hx hb hts hi3 hown hK hP 0 rfl rfl 7 (by decide) hk1 (fun _ h9 => h9) rfl dX3_addLaw_10 ?_
    refine lv_aload_n hx hb dX3_addLaw_13 rfl (lv_at hl 0 rfl) ?_
    refine va_get (D := (dC, dI)) (ci := 3) (v := .int h0_laws) (C := RX3) (T := TX3) (N := 16) hx hb hts hi3 hown hK hP 0 rfl rfl 1 (by decide) hk0 (fun _ h9 => h9) rfl dX3_addLaw_14 ?_
    refine lv_iload_n hx hb dX3_addLaw_17 rfl (lv_at hl 1 rfl) ?_
    refine y_iast hx hb hK hP hD hS 1 1 rfl rfl (z_in rfl (by omega) (by omega)) dX3_addLaw_18 (fun H locs g3 h4 hP hD hS => ?_)
    have hP : va_P (dC, dI) vwCl [(h0, .inr (3, [.int h0_lines, .int h0_laws, .int h0_sorts, .int h0_shares, .int h0_parts, .int h0_noise, .int h0_noiseTold, .ref h0_enter, .ref h0_leave, .ref h0_share, .ref h0_gift, .ref h0_wish, .ref h0_spread, .ref h0_leakBy, .ref h0_joint, .ref h0_part])), (h0_enter, .inl (cI, 6, .inl g3)), (h0_leave, .inl (cI, 6, .inl h0_leave_f))] H := hP
    have hD : va_D A [(h0, .inr (3, [.int h0_lines, .int h0_laws, .int h0_sorts, .int h0_shares, .int h0_parts, .int h0_noise, .int h0_noiseTold, .ref h0_enter, .ref h0_leave, .ref h0_share, .ref h0_gift, .ref h0_wish, .ref h0_spread, .ref h0_leakBy, .ref h0_joint, .ref h0_part])), (h0_enter, .inl (cI, 6, .inl g3)), (h0_leave, .inl (cI, 6, .inl h0_leave_f))] := hD
    have f5 : (g3 h0_laws.toNatClampNeg).toInt = p1.toInt := z_updT h4 rfl
    refine lv_aload_n hx hb dX3_addLaw_19 rfl (lv_at hl 0 rfl) ?_
    refine va_get (D := (dC, dI)) (ci := 3) (v := .ref h0_leave) (C := RX3) (T := TX3) (N := 16) hx hb hts hi3 hown hK hP 0 rfl rfl 8 (by decide) hk2 (fun _ h9 => h9) rfl dX3_addLaw_20 ?_
    refine lv_aload_n hx hb dX3_addLaw_23 rfl (lv_at hl 0 rfl) ?_
    refine va_get (D := (dC, dI)) (ci := 3) (v := .int h0_laws) (C := RX3) (T := TX3) (N := 16) hx hb hts hi3 hown hK hP 0 rfl rfl 1 (by decide) hk0 (fun _ h9 => h9) rfl dX3_addLaw_24 ?_
    refine lv_iload_n hx hb dX3_addLaw_27 rfl (lv_at hl 2 rfl) ?_
    refine y_iast hx hb hK hP hD hS 2 1 rfl rfl (z_in rfl (by omega) (by omega)) dX3_addLaw_28 (fun H locs g6 h7 hP hD hS => ?_)
    have hP : va_P (dC, dI) vwCl [(h0, .inr (3, [.int h0_lines, .int h0_laws, .int h0_sorts, .int h0_shares, .int h0_parts, .int h0_noise, .int h0_noiseTold, .ref h0_enter, .ref h0_leave, .ref h0_share, .ref h0_gift, .ref h0_wish, .ref h0_spread, .ref h0_leakBy, .ref h0_joint, .ref h0_part])), (h0_enter, .inl (cI, 6, .inl g3)), (h0_leave, .inl (cI, 6, .inl g6))] H := hP
    have hD : va_D A [(h0, .inr (3, [.int h0_lines, .int h0_laws, .int h0_sorts, .int h0_shares, .int h0_parts, .int h0_noise, .int h0_noiseTold, .ref h0_enter, .ref h0_leave, .ref h0_share, .ref h0_gift, .ref h0_wish, .ref h0_spread, .ref h0_leakBy, .ref h0_joint, .ref h0_part])), (h0_enter, .inl (cI, 6, .inl g3)), (h0_leave, .inl (cI, 6, .inl g6))] := hD
    have f8 : (g6 h0_laws.toNatClampNeg).toInt = p2.toInt := z_updT h7 rfl
    refine lv_aload_n hx hb dX3_addLaw_29 rfl (lv_at hl 0 rfl) ?_
    refine lv_dup hx hb dX3_addLaw_30 rfl ?_
    refine va_get (D := (dC, dI)) (ci := 3) (v := .int h0_laws) (C := RX3) (T := TX3) (N := 16) hx hb hts hi3 hown hK hP 0 rfl rfl 1 (by decide) hk0 (fun _ h9 => h9) rfl dX3_addLaw_31 ?_
    refine lv_iconst (v := 1) hx hb dX3_addLaw_34 (by decide) ?_
    refine lv_iadd hx hb dX3_addLaw_35 ?_
    refine lv_topi (fun r9 h10 => ?_)
    have f11 : r9.toInt = h0_laws.toInt + 1 := z_iadd h10 rfl (by decide) (by omega) (by omega)
    refine va_put (D := (dC, dI)) (ci := 3) (v := .int r9) (ty := .int) (C := RX3) (T := TX3) (N := 16) hx hb hts hi3 tyX3 tyX3_ok nmX3 hown hK hP hD hS 0 rfl rfl 1 (by decide) hk0 (fun _ h9 => h9) rfl (by decide +kernel) rfl rfl (Nat.le_of_ble_eq_true rfl) dX3_addLaw_36 (fun H locs hP hD hS => ?_)
    have hP : va_P (dC, dI) vwCl [(h0, .inr (3, [.int h0_lines, .int r9, .int h0_sorts, .int h0_shares, .int h0_parts, .int h0_noise, .int h0_noiseTold, .ref h0_enter, .ref h0_leave, .ref h0_share, .ref h0_gift, .ref h0_wish, .ref h0_spread, .ref h0_leakBy, .ref h0_joint, .ref h0_part])), (h0_enter, .inl (cI, 6, .inl g3)), (h0_leave, .inl (cI, 6, .inl g6))] H := hP
    have hD : va_D A [(h0, .inr (3, [.int h0_lines, .int r9, .int h0_sorts, .int h0_shares, .int h0_parts, .int h0_noise, .int h0_noiseTold, .ref h0_enter, .ref h0_leave, .ref h0_share, .ref h0_gift, .ref h0_wish, .ref h0_spread, .ref h0_leakBy, .ref h0_joint, .ref h0_part])), (h0_enter, .inl (cI, 6, .inl g3)), (h0_leave, .inl (cI, 6, .inl g6))] := hD
    exact y_vret ((r9, g3, g6) : Int32 × (Nat → Int32) × (Nat → Int32)) hx hb hr hlocks hK hP hD hS hAe hQ rfl ⟨(show 0 ≤ r9.toInt from by omega), (show r9.toInt ≤ 6 from by omega), (show 0 ≤ h0_sorts.toInt from by omega), (show h0_sorts.toInt ≤ 8 from by omega), (show 0 ≤ h0_parts.toInt from by omega), (show h0_parts.toInt ≤ 120 from by omega), (show 0 ≤ h0_noiseTold.toInt from by omega), (show h0_noiseTold.toInt ≤ 1 from by omega)⟩ dX3_addLaw_39
set_option maxHeartbeats 8000000 in
set_option maxRecDepth 100000 in
theorem k_X3_addPart (l : Launch) (dC : Nat → ClassId) (dI : Nat → Nat → Nat) (cB cI cJ cZ cP cQ : ClassId) (h0 : Nat) (h0_enter : Nat) (h0_leave : Nat) (h0_share : Nat) (h0_gift : Nat) (h0_wish : Nat) (h0_spread : Nat) (h0_leakBy : Nat) (h0_joint : Nat) (h0_part : Nat) (sz : Nat) (p1 : Int32) (p2 : Int32) (h0_lines : Int32) (h0_laws : Int32) (h0_sorts : Int32) (h0_shares : Int32) (h0_parts : Int32) (h0_noise : Int32) (h0_noiseTold : Int32) (h0_joint_f : Nat → Int32) (h0_part_f : Nat → Int32) (e0 : 0 ≤ h0_laws.toInt) (e1 : h0_laws.toInt ≤ 6) (e2 : 0 ≤ h0_sorts.toInt) (e3 : h0_sorts.toInt ≤ 8) (e4 : 0 ≤ h0_parts.toInt) (e5 : h0_parts.toInt ≤ 120) (e6 : 0 ≤ h0_noiseTold.toInt) (e7 : h0_noiseTold.toInt ≤ 1) : Met l yX3_addPart wsX3_addPart ({ frames := 0, cells := 0, slots := 0, locals := 0 } : Room) (zPc [.ref h0, .int p1, .int p2] (dC, dI) (zT cB cI cJ cZ cP cQ) [(h0, .inr (3, [.int h0_lines, .int h0_laws, .int h0_sorts, .int h0_shares, .int h0_parts, .int h0_noise, .int h0_noiseTold, .ref h0_enter, .ref h0_leave, .ref h0_share, .ref h0_gift, .ref h0_wish, .ref h0_spread, .ref h0_leakBy, .ref h0_joint, .ref h0_part])), (h0_joint, .inl (cI, 120, .inl h0_joint_f)), (h0_part, .inl (cI, 120, .inl h0_part_f))] sz [] []) (va_Qv (fun (u : Int32 × (Nat → Int32) × (Nat → Int32)) => 0 ≤ h0_laws.toInt ∧ h0_laws.toInt ≤ 6 ∧ 0 ≤ h0_sorts.toInt ∧ h0_sorts.toInt ≤ 8 ∧ 0 ≤ u.1.toInt ∧ u.1.toInt ≤ 120 ∧ 0 ≤ h0_noiseTold.toInt ∧ h0_noiseTold.toInt ≤ 1) (zB (dC, dI) (zT cB cI cJ cZ cP cQ) (fun u : Int32 × (Nat → Int32) × (Nat → Int32) => [(h0, .inr (3, [.int h0_lines, .int h0_laws, .int h0_sorts, .int h0_shares, .int u.1, .int h0_noise, .int h0_noiseTold, .ref h0_enter, .ref h0_leave, .ref h0_share, .ref h0_gift, .ref h0_wish, .ref h0_spread, .ref h0_leakBy, .ref h0_joint, .ref h0_part])), (h0_joint, .inl (cI, 120, .inl u.2.1)), (h0_part, .inl (cI, 120, .inl u.2.2))]) [(h0, .inr (3, [.int h0_lines, .int h0_laws, .int h0_sorts, .int h0_shares, .int h0_parts, .int h0_noise, .int h0_noiseTold, .ref h0_enter, .ref h0_leave, .ref h0_share, .ref h0_gift, .ref h0_wish, .ref h0_spread, .ref h0_leakBy, .ref h0_joint, .ref h0_part])), (h0_joint, .inl (cI, 120, .inl h0_joint_f)), (h0_part, .inl (cI, 120, .inl h0_part_f))] sz) (va_A [(h0, .inr (3, [.int h0_lines, .int h0_laws, .int h0_sorts, .int h0_shares, .int h0_parts, .int h0_noise, .int h0_noiseTold, .ref h0_enter, .ref h0_leave, .ref h0_share, .ref h0_gift, .ref h0_wish, .ref h0_spread, .ref h0_leakBy, .ref h0_joint, .ref h0_part])), (h0_joint, .inl (cI, 120, .inl h0_joint_f)), (h0_part, .inl (cI, 120, .inl h0_part_f))] sz)) 0 0 (va_A [(h0, .inr (3, [.int h0_lines, .int h0_laws, .int h0_sorts, .int h0_shares, .int h0_parts, .int h0_noise, .int h0_noiseTold, .ref h0_enter, .ref h0_leave, .ref h0_share, .ref h0_gift, .ref h0_wish, .ref h0_spread, .ref h0_leakBy, .ref h0_joint, .ref h0_part])), (h0_joint, .inl (cI, 120, .inl h0_joint_f)), (h0_part, .inl (cI, 120, .inl h0_part_f))] sz) := by
  refine z_enter (cc := cX3_addPart) (maxL := 3) (ret := none) (by decide) rfl (Nat.le_of_ble_eq_true rfl) ?_
  intro p e s m below meth c A ls Q H locs hx hb hr hml hown hts hlocks hin hK hP hD hA hX hS hAe hQ hl
  have hown : s.vm.findClass RX3 = some m.cls := hown
  have hi3 : ∀ w ∈ wsX30, w ∈ wsX3_addPart := fun w h => List.mem_cons_of_mem _ (List.mem_append_right _ h)
  have hk0 := hts (.fieldLink RX3 58 "MonthPush$Land" "parts" "I") (by decide +kernel)
  have hk1 := hts (.fieldLink RX3 33 "MonthPush$Land" "joint" "[I") (by decide +kernel)
  have hk2 := hts (.fieldLink RX3 36 "MonthPush$Land" "part" "[I") (by decide +kernel)
  have hl : lv_has ls 3 [(0, .ref h0), (1, .int p1), (2, .int p2)] := hl
  refine lv_aload_n hx hb dX3_addPart_0 rfl (lv_at hl 0 rfl) ?_
  refine va_get (D := (dC, dI)) (ci := 3) (v := .int h0_parts) (C := RX3) (T := TX3) (N := 16) hx hb hts hi3 hown hK hP 0 rfl rfl 4 (by decide) hk0 (fun _ h9 => h9) rfl dX3_addPart_1 ?_
  refine lv_bipush (v := 120) hx hb dX3_addPart_4 (by decide) ?_
  refine lv_icmp_ge (tgt := 39) hx hb dX3_addPart_6 (by decide) (fun c_1 => ?_) (fun c_1 => ?_)
  · have f2 : 120 ≤ h0_parts.toInt := z_le (by decide) rfl c_1
    exact y_vret ((h0_parts, h0_joint_f, h0_part_f) : Int32 × (Nat → Int32) × (Nat → Int32)) hx hb hr hlocks hK hP hD hS hAe hQ rfl ⟨(show 0 ≤ h0_laws.toInt from by omega), (show h0_laws.toInt ≤ 6 from by omega), (show 0 ≤ h0_sorts.toInt from by omega), (show h0_sorts.toInt ≤ 8 from by omega), (show 0 ≤ h0_parts.toInt from by omega), (show h0_parts.toInt ≤ 120 from by omega), (show 0 ≤ h0_noiseTold.toInt from by omega), (show h0_noiseTold.toInt ≤ 1 from by omega)⟩ dX3_addPart_39
  · have f2 : h0_parts.toInt < 120 := z_nle (by decide) rfl c_1
    refine lv_aload_n hx hb dX3_addPart_9 rfl (lv_at hl 0 rfl) ?_
    refine va_get (D := (dC, dI)) (ci := 3) (v := .ref h0_joint) (C := RX3) (T := TX3) (N := 16) hx hb hts hi3 hown hK hP 0 rfl rfl 14 (by decide) hk1 (fun _ h9 => h9) rfl dX3_addPart_10 ?_
    refine lv_aload_n hx hb dX3_addPart_13 rfl (lv_at hl 0 rfl) ?_
    refine va_get (D := (dC, dI)) (ci := 3) (v := .int h0_parts) (C := RX3) (T := TX3) (N := 16) hx hb hts hi3 hown hK hP 0 rfl rfl 4 (by decide) hk0 (fun _ h9 => h9) rfl dX3_addPart_14 ?_
    refine lv_iload_n hx hb dX3_addPart_17 rfl (lv_at hl 1 rfl) ?_
    refine y_iast hx hb hK hP hD hS 1 1 rfl rfl (z_in rfl (by omega) (by omega)) dX3_addPart_18 (fun H locs g3 h4 hP hD hS => ?_)
    have hP : va_P (dC, dI) vwCl [(h0, .inr (3, [.int h0_lines, .int h0_laws, .int h0_sorts, .int h0_shares, .int h0_parts, .int h0_noise, .int h0_noiseTold, .ref h0_enter, .ref h0_leave, .ref h0_share, .ref h0_gift, .ref h0_wish, .ref h0_spread, .ref h0_leakBy, .ref h0_joint, .ref h0_part])), (h0_joint, .inl (cI, 120, .inl g3)), (h0_part, .inl (cI, 120, .inl h0_part_f))] H := hP
    have hD : va_D A [(h0, .inr (3, [.int h0_lines, .int h0_laws, .int h0_sorts, .int h0_shares, .int h0_parts, .int h0_noise, .int h0_noiseTold, .ref h0_enter, .ref h0_leave, .ref h0_share, .ref h0_gift, .ref h0_wish, .ref h0_spread, .ref h0_leakBy, .ref h0_joint, .ref h0_part])), (h0_joint, .inl (cI, 120, .inl g3)), (h0_part, .inl (cI, 120, .inl h0_part_f))] := hD
    have f5 : (g3 h0_parts.toNatClampNeg).toInt = p1.toInt := z_updT h4 rfl
    refine lv_aload_n hx hb dX3_addPart_19 rfl (lv_at hl 0 rfl) ?_
    refine va_get (D := (dC, dI)) (ci := 3) (v := .ref h0_part) (C := RX3) (T := TX3) (N := 16) hx hb hts hi3 hown hK hP 0 rfl rfl 15 (by decide) hk2 (fun _ h9 => h9) rfl dX3_addPart_20 ?_
    refine lv_aload_n hx hb dX3_addPart_23 rfl (lv_at hl 0 rfl) ?_
    refine va_get (D := (dC, dI)) (ci := 3) (v := .int h0_parts) (C := RX3) (T := TX3) (N := 16) hx hb hts hi3 hown hK hP 0 rfl rfl 4 (by decide) hk0 (fun _ h9 => h9) rfl dX3_addPart_24 ?_
    refine lv_iload_n hx hb dX3_addPart_27 rfl (lv_at hl 2 rfl) ?_
    refine y_iast hx hb hK hP hD hS 2 1 rfl rfl (z_in rfl (by omega) (by omega)) dX3_addPart_28 (fun H locs g6 h7 hP hD hS => ?_)
    have hP : va_P (dC, dI) vwCl [(h0, .inr (3, [.int h0_lines, .int h0_laws, .int h0_sorts, .int h0_shares, .int h0_parts, .int h0_noise, .int h0_noiseTold, .ref h0_enter, .ref h0_leave, .ref h0_share, .ref h0_gift, .ref h0_wish, .ref h0_spread, .ref h0_leakBy, .ref h0_joint, .ref h0_part])), (h0_joint, .inl (cI, 120, .inl g3)), (h0_part, .inl (cI, 120, .inl g6))] H := hP
    have hD : va_D A [(h0, .inr (3, [.int h0_lines, .int h0_laws, .int h0_sorts, .int h0_shares, .int h0_parts, .int h0_noise, .int h0_noiseTold, .ref h0_enter, .ref h0_leave, .ref h0_share, .ref h0_gift, .ref h0_wish, .ref h0_spread, .ref h0_leakBy, .ref h0_joint, .ref h0_part])), (h0_joint, .inl (cI, 120, .inl g3)), (h0_part, .inl (cI, 120, .inl g6))] := hD
    have f8 : (g6 h0_parts.toNatClampNeg).toInt = p2.toInt := z_updT h7 rfl
    refine lv_aload_n hx hb dX3_addPart_29 rfl (lv_at hl 0 rfl) ?_
    refine lv_dup hx hb dX3_addPart_30 rfl ?_
    refine va_get (D := (dC, dI)) (ci := 3) (v := .int h0_parts) (C := RX3) (T := TX3) (N := 16) hx hb hts hi3 hown hK hP 0 rfl rfl 4 (by decide) hk0 (fun _ h9 => h9) rfl dX3_addPart_31 ?_
    refine lv_iconst (v := 1) hx hb dX3_addPart_34 (by decide) ?_
    refine lv_iadd hx hb dX3_addPart_35 ?_
    refine lv_topi (fun r9 h10 => ?_)
    have f11 : r9.toInt = h0_parts.toInt + 1 := z_iadd h10 rfl (by decide) (by omega) (by omega)
    refine va_put (D := (dC, dI)) (ci := 3) (v := .int r9) (ty := .int) (C := RX3) (T := TX3) (N := 16) hx hb hts hi3 tyX3 tyX3_ok nmX3 hown hK hP hD hS 0 rfl rfl 4 (by decide) hk0 (fun _ h9 => h9) rfl (by decide +kernel) rfl rfl (Nat.le_of_ble_eq_true rfl) dX3_addPart_36 (fun H locs hP hD hS => ?_)
    have hP : va_P (dC, dI) vwCl [(h0, .inr (3, [.int h0_lines, .int h0_laws, .int h0_sorts, .int h0_shares, .int r9, .int h0_noise, .int h0_noiseTold, .ref h0_enter, .ref h0_leave, .ref h0_share, .ref h0_gift, .ref h0_wish, .ref h0_spread, .ref h0_leakBy, .ref h0_joint, .ref h0_part])), (h0_joint, .inl (cI, 120, .inl g3)), (h0_part, .inl (cI, 120, .inl g6))] H := hP
    have hD : va_D A [(h0, .inr (3, [.int h0_lines, .int h0_laws, .int h0_sorts, .int h0_shares, .int r9, .int h0_noise, .int h0_noiseTold, .ref h0_enter, .ref h0_leave, .ref h0_share, .ref h0_gift, .ref h0_wish, .ref h0_spread, .ref h0_leakBy, .ref h0_joint, .ref h0_part])), (h0_joint, .inl (cI, 120, .inl g3)), (h0_part, .inl (cI, 120, .inl g6))] := hD
    exact y_vret ((r9, g3, g6) : Int32 × (Nat → Int32) × (Nat → Int32)) hx hb hr hlocks hK hP hD hS hAe hQ rfl ⟨(show 0 ≤ h0_laws.toInt from by omega), (show h0_laws.toInt ≤ 6 from by omega), (show 0 ≤ h0_sorts.toInt from by omega), (show h0_sorts.toInt ≤ 8 from by omega), (show 0 ≤ r9.toInt from by omega), (show r9.toInt ≤ 120 from by omega), (show 0 ≤ h0_noiseTold.toInt from by omega), (show h0_noiseTold.toInt ≤ 1 from by omega)⟩ dX3_addPart_39
set_option maxHeartbeats 8000000 in
set_option maxRecDepth 100000 in
theorem k_X3_addSort (l : Launch) (dC : Nat → ClassId) (dI : Nat → Nat → Nat) (cB cI cJ cZ cP cQ : ClassId) (h0 : Nat) (h0_enter : Nat) (h0_leave : Nat) (h0_share : Nat) (h0_gift : Nat) (h0_wish : Nat) (h0_spread : Nat) (h0_leakBy : Nat) (h0_joint : Nat) (h0_part : Nat) (sz : Nat) (p1 : Int32) (p2 : Int32) (p3 : Int32) (p4 : Int32) (h0_lines : Int32) (h0_laws : Int32) (h0_sorts : Int32) (h0_shares : Int32) (h0_parts : Int32) (h0_noise : Int32) (h0_noiseTold : Int32) (h0_share_f : Nat → Int32) (h0_gift_f : Nat → Int32) (h0_wish_f : Nat → Int32) (h0_spread_f : Nat → Int32) (e0 : 0 ≤ h0_laws.toInt) (e1 : h0_laws.toInt ≤ 6) (e2 : 0 ≤ h0_sorts.toInt) (e3 : h0_sorts.toInt ≤ 8) (e4 : 0 ≤ h0_parts.toInt) (e5 : h0_parts.toInt ≤ 120) (e6 : 0 ≤ h0_noiseTold.toInt) (e7 : h0_noiseTold.toInt ≤ 1) (z_h0_wish : zR 0 240 h0_wish_f) (z_h0_spread : zR 0 60 h0_spread_f) (e10 : 0 ≤ p3.toInt) (e11 : p3.toInt ≤ 240) (e12 : 0 ≤ p4.toInt) (e13 : p4.toInt ≤ 60) : Met l yX3_addSort wsX3_addSort ({ frames := 0, cells := 0, slots := 0, locals := 0 } : Room) (zPc [.ref h0, .int p1, .int p2, .int p3, .int p4] (dC, dI) (zT cB cI cJ cZ cP cQ) [(h0, .inr (3, [.int h0_lines, .int h0_laws, .int h0_sorts, .int h0_shares, .int h0_parts, .int h0_noise, .int h0_noiseTold, .ref h0_enter, .ref h0_leave, .ref h0_share, .ref h0_gift, .ref h0_wish, .ref h0_spread, .ref h0_leakBy, .ref h0_joint, .ref h0_part])), (h0_share, .inl (cI, 8, .inl h0_share_f)), (h0_gift, .inl (cI, 8, .inl h0_gift_f)), (h0_wish, .inl (cI, 8, .inl h0_wish_f)), (h0_spread, .inl (cI, 8, .inl h0_spread_f))] sz [] []) (va_Qv (fun (u : Int32 × Int32 × (Nat → Int32) × (Nat → Int32) × (Nat → Int32) × (Nat → Int32)) => 0 ≤ h0_laws.toInt ∧ h0_laws.toInt ≤ 6 ∧ 0 ≤ u.1.toInt ∧ u.1.toInt ≤ 8 ∧ 0 ≤ h0_parts.toInt ∧ h0_parts.toInt ≤ 120 ∧ 0 ≤ h0_noiseTold.toInt ∧ h0_noiseTold.toInt ≤ 1 ∧ zR 0 240 u.2.2.2.2.1 ∧ zR 0 60 u.2.2.2.2.2) (zB (dC, dI) (zT cB cI cJ cZ cP cQ) (fun u : Int32 × Int32 × (Nat → Int32) × (Nat → Int32) × (Nat → Int32) × (Nat → Int32) => [(h0, .inr (3, [.int h0_lines, .int h0_laws, .int u.1, .int u.2.1, .int h0_parts, .int h0_noise, .int h0_noiseTold, .ref h0_enter, .ref h0_leave, .ref h0_share, .ref h0_gift, .ref h0_wish, .ref h0_spread, .ref h0_leakBy, .ref h0_joint, .ref h0_part])), (h0_share, .inl (cI, 8, .inl u.2.2.1)), (h0_gift, .inl (cI, 8, .inl u.2.2.2.1)), (h0_wish, .inl (cI, 8, .inl u.2.2.2.2.1)), (h0_spread, .inl (cI, 8, .inl u.2.2.2.2.2))]) [(h0, .inr (3, [.int h0_lines, .int h0_laws, .int h0_sorts, .int h0_shares, .int h0_parts, .int h0_noise, .int h0_noiseTold, .ref h0_enter, .ref h0_leave, .ref h0_share, .ref h0_gift, .ref h0_wish, .ref h0_spread, .ref h0_leakBy, .ref h0_joint, .ref h0_part])), (h0_share, .inl (cI, 8, .inl h0_share_f)), (h0_gift, .inl (cI, 8, .inl h0_gift_f)), (h0_wish, .inl (cI, 8, .inl h0_wish_f)), (h0_spread, .inl (cI, 8, .inl h0_spread_f))] sz) (va_A [(h0, .inr (3, [.int h0_lines, .int h0_laws, .int h0_sorts, .int h0_shares, .int h0_parts, .int h0_noise, .int h0_noiseTold, .ref h0_enter, .ref h0_leave, .ref h0_share, .ref h0_gift, .ref h0_wish, .ref h0_spread, .ref h0_leakBy, .ref h0_joint, .ref h0_part])), (h0_share, .inl (cI, 8, .inl h0_share_f)), (h0_gift, .inl (cI, 8, .inl h0_gift_f)), (h0_wish, .inl (cI, 8, .inl h0_wish_f)), (h0_spread, .inl (cI, 8, .inl h0_spread_f))] sz)) 0 0 (va_A [(h0, .inr (3, [.int h0_lines, .int h0_laws, .int h0_sorts, .int h0_shares, .int h0_parts, .int h0_noise, .int h0_noiseTold, .ref h0_enter, .ref h0_leave, .ref h0_share, .ref h0_gift, .ref h0_wish, .ref h0_spread, .ref h0_leakBy, .ref h0_joint, .ref h0_part])), (h0_share, .inl (cI, 8, .inl h0_share_f)), (h0_gift, .inl (cI, 8, .inl h0_gift_f)), (h0_wish, .inl (cI, 8, .inl h0_wish_f)), (h0_spread, .inl (cI, 8, .inl h0_spread_f))] sz) := by
  refine z_enter (cc := cX3_addSort) (maxL := 5) (ret := none) (by decide) rfl (Nat.le_of_ble_eq_true rfl) ?_
  intro p e s m below meth c A ls Q H locs hx hb hr hml hown hts hlocks hin hK hP hD hA hX hS hAe hQ hl
  have hown : s.vm.findClass RX3 = some m.cls := hown
  have hi3 : ∀ w ∈ wsX30, w ∈ wsX3_addSort := fun w h => List.mem_cons_of_mem _ (List.mem_append_right _ h)
  have hk0 := hts (.fieldLink RX3 52 "MonthPush$Land" "sorts" "I") (by decide +kernel)
  have hk1 := hts (.fieldLink RX3 18 "MonthPush$Land" "share" "[I") (by decide +kernel)
  have hk2 := hts (.fieldLink RX3 21 "MonthPush$Land" "gift" "[I") (by decide +kernel)
  have hk3 := hts (.fieldLink RX3 24 "MonthPush$Land" "wish" "[I") (by decide +kernel)
  have hk4 := hts (.fieldLink RX3 27 "MonthPush$Land" "spread" "[I") (by decide +kernel)
  have hk5 := hts (.fieldLink RX3 55 "MonthPush$Land" "shares" "I") (by decide +kernel)
  have hl : lv_has ls 5 [(0, .ref h0), (1, .int p1), (2, .int p2), (3, .int p3), (4, .int p4)] := hl
  refine lv_aload_n hx hb dX3_addSort_0 rfl (lv_at hl 0 rfl) ?_
  refine va_get (D := (dC, dI)) (ci := 3) (v := .int h0_sorts) (C := RX3) (T := TX3) (N := 16) hx hb hts hi3 hown hK hP 0 rfl rfl 2 (by decide) hk0 (fun _ h9 => h9) rfl dX3_addSort_1 ?_
  refine lv_bipush (v := 8) hx hb dX3_addSort_4 (by decide) ?_
  refine lv_icmp_ge (tgt := 70) hx hb dX3_addSort_6 (by decide) (fun c_1 => ?_) (fun c_1 => ?_)
  · have f2 : 8 ≤ h0_sorts.toInt := z_le (by decide) rfl c_1
    exact y_vret ((h0_sorts, h0_shares, h0_share_f, h0_gift_f, h0_wish_f, h0_spread_f) : Int32 × Int32 × (Nat → Int32) × (Nat → Int32) × (Nat → Int32) × (Nat → Int32)) hx hb hr hlocks hK hP hD hS hAe hQ rfl ⟨(show 0 ≤ h0_laws.toInt from by omega), (show h0_laws.toInt ≤ 6 from by omega), (show 0 ≤ h0_sorts.toInt from by omega), (show h0_sorts.toInt ≤ 8 from by omega), (show 0 ≤ h0_parts.toInt from by omega), (show h0_parts.toInt ≤ 120 from by omega), (show 0 ≤ h0_noiseTold.toInt from by omega), (show h0_noiseTold.toInt ≤ 1 from by omega), z_h0_wish, z_h0_spread⟩ dX3_addSort_70
  · have f2 : h0_sorts.toInt < 8 := z_nle (by decide) rfl c_1
    refine lv_aload_n hx hb dX3_addSort_9 rfl (lv_at hl 0 rfl) ?_
    refine va_get (D := (dC, dI)) (ci := 3) (v := .ref h0_share) (C := RX3) (T := TX3) (N := 16) hx hb hts hi3 hown hK hP 0 rfl rfl 9 (by decide) hk1 (fun _ h9 => h9) rfl dX3_addSort_10 ?_
    refine lv_aload_n hx hb dX3_addSort_13 rfl (lv_at hl 0 rfl) ?_
    refine va_get (D := (dC, dI)) (ci := 3) (v := .int h0_sorts) (C := RX3) (T := TX3) (N := 16) hx hb hts hi3 hown hK hP 0 rfl rfl 2 (by decide) hk0 (fun _ h9 => h9) rfl dX3_addSort_14 ?_
    refine lv_iload_n hx hb dX3_addSort_17 rfl (lv_at hl 1 rfl) ?_
    refine y_iast hx hb hK hP hD hS 1 1 rfl rfl (z_in rfl (by omega) (by omega)) dX3_addSort_18 (fun H locs g3 h4 hP hD hS => ?_)
    have hP : va_P (dC, dI) vwCl [(h0, .inr (3, [.int h0_lines, .int h0_laws, .int h0_sorts, .int h0_shares, .int h0_parts, .int h0_noise, .int h0_noiseTold, .ref h0_enter, .ref h0_leave, .ref h0_share, .ref h0_gift, .ref h0_wish, .ref h0_spread, .ref h0_leakBy, .ref h0_joint, .ref h0_part])), (h0_share, .inl (cI, 8, .inl g3)), (h0_gift, .inl (cI, 8, .inl h0_gift_f)), (h0_wish, .inl (cI, 8, .inl h0_wish_f)), (h0_spread, .inl (cI, 8, .inl h0_spread_f))] H := hP
    have hD : va_D A [(h0, .inr (3, [.int h0_lines, .int h0_laws, .int h0_sorts, .int h0_shares, .int h0_parts, .int h0_noise, .int h0_noiseTold, .ref h0_enter, .ref h0_leave, .ref h0_share, .ref h0_gift, .ref h0_wish, .ref h0_spread, .ref h0_leakBy, .ref h0_joint, .ref h0_part])), (h0_share, .inl (cI, 8, .inl g3)), (h0_gift, .inl (cI, 8, .inl h0_gift_f)), (h0_wish, .inl (cI, 8, .inl h0_wish_f)), (h0_spread, .inl (cI, 8, .inl h0_spread_f))] := hD
    have f5 : (g3 h0_sorts.toNatClampNeg).toInt = p1.toInt := z_updT h4 rfl
    refine lv_aload_n hx hb dX3_addSort_19 rfl (lv_at hl 0 rfl) ?_
    refine va_get (D := (dC, dI)) (ci := 3) (v := .ref h0_gift) (C := RX3) (T := TX3) (N := 16) hx hb hts hi3 hown hK hP 0 rfl rfl 10 (by decide) hk2 (fun _ h9 => h9) rfl dX3_addSort_20 ?_
    refine lv_aload_n hx hb dX3_addSort_23 rfl (lv_at hl 0 rfl) ?_
    refine va_get (D := (dC, dI)) (ci := 3) (v := .int h0_sorts) (C := RX3) (T := TX3) (N := 16) hx hb hts hi3 hown hK hP 0 rfl rfl 2 (by decide) hk0 (fun _ h9 => h9) rfl dX3_addSort_24 ?_
    refine lv_iload_n hx hb dX3_addSort_27 rfl (lv_at hl 2 rfl) ?_
    refine y_iast hx hb hK hP hD hS 2 1 rfl rfl (z_in rfl (by omega) (by omega)) dX3_addSort_28 (fun H locs g6 h7 hP hD hS => ?_)
    have hP : va_P (dC, dI) vwCl [(h0, .inr (3, [.int h0_lines, .int h0_laws, .int h0_sorts, .int h0_shares, .int h0_parts, .int h0_noise, .int h0_noiseTold, .ref h0_enter, .ref h0_leave, .ref h0_share, .ref h0_gift, .ref h0_wish, .ref h0_spread, .ref h0_leakBy, .ref h0_joint, .ref h0_part])), (h0_share, .inl (cI, 8, .inl g3)), (h0_gift, .inl (cI, 8, .inl g6)), (h0_wish, .inl (cI, 8, .inl h0_wish_f)), (h0_spread, .inl (cI, 8, .inl h0_spread_f))] H := hP
    have hD : va_D A [(h0, .inr (3, [.int h0_lines, .int h0_laws, .int h0_sorts, .int h0_shares, .int h0_parts, .int h0_noise, .int h0_noiseTold, .ref h0_enter, .ref h0_leave, .ref h0_share, .ref h0_gift, .ref h0_wish, .ref h0_spread, .ref h0_leakBy, .ref h0_joint, .ref h0_part])), (h0_share, .inl (cI, 8, .inl g3)), (h0_gift, .inl (cI, 8, .inl g6)), (h0_wish, .inl (cI, 8, .inl h0_wish_f)), (h0_spread, .inl (cI, 8, .inl h0_spread_f))] := hD
    have f8 : (g6 h0_sorts.toNatClampNeg).toInt = p2.toInt := z_updT h7 rfl
    refine lv_aload_n hx hb dX3_addSort_29 rfl (lv_at hl 0 rfl) ?_
    refine va_get (D := (dC, dI)) (ci := 3) (v := .ref h0_wish) (C := RX3) (T := TX3) (N := 16) hx hb hts hi3 hown hK hP 0 rfl rfl 11 (by decide) hk3 (fun _ h9 => h9) rfl dX3_addSort_30 ?_
    refine lv_aload_n hx hb dX3_addSort_33 rfl (lv_at hl 0 rfl) ?_
    refine va_get (D := (dC, dI)) (ci := 3) (v := .int h0_sorts) (C := RX3) (T := TX3) (N := 16) hx hb hts hi3 hown hK hP 0 rfl rfl 2 (by decide) hk0 (fun _ h9 => h9) rfl dX3_addSort_34 ?_
    refine lv_iload_n hx hb dX3_addSort_37 rfl (lv_at hl 3 rfl) ?_
    refine y_iast hx hb hK hP hD hS 3 1 rfl rfl (z_in rfl (by omega) (by omega)) dX3_addSort_38 (fun H locs g9 h10 hP hD hS => ?_)
    have hP : va_P (dC, dI) vwCl [(h0, .inr (3, [.int h0_lines, .int h0_laws, .int h0_sorts, .int h0_shares, .int h0_parts, .int h0_noise, .int h0_noiseTold, .ref h0_enter, .ref h0_leave, .ref h0_share, .ref h0_gift, .ref h0_wish, .ref h0_spread, .ref h0_leakBy, .ref h0_joint, .ref h0_part])), (h0_share, .inl (cI, 8, .inl g3)), (h0_gift, .inl (cI, 8, .inl g6)), (h0_wish, .inl (cI, 8, .inl g9)), (h0_spread, .inl (cI, 8, .inl h0_spread_f))] H := hP
    have hD : va_D A [(h0, .inr (3, [.int h0_lines, .int h0_laws, .int h0_sorts, .int h0_shares, .int h0_parts, .int h0_noise, .int h0_noiseTold, .ref h0_enter, .ref h0_leave, .ref h0_share, .ref h0_gift, .ref h0_wish, .ref h0_spread, .ref h0_leakBy, .ref h0_joint, .ref h0_part])), (h0_share, .inl (cI, 8, .inl g3)), (h0_gift, .inl (cI, 8, .inl g6)), (h0_wish, .inl (cI, 8, .inl g9)), (h0_spread, .inl (cI, 8, .inl h0_spread_f))] := hD
    have z11 : zR 0 240 g9 := zR_upd h10 z_h0_wish rfl (by omega) (by omega)
    have f12 : (g9 h0_sorts.toNatClampNeg).toInt = p3.toInt := z_updT h10 rfl
    refine lv_aload_n hx hb dX3_addSort_39 rfl (lv_at hl 0 rfl) ?_
    refine va_get (D := (dC, dI)) (ci := 3) (v := .ref h0_spread) (C := RX3) (T := TX3) (N := 16) hx hb hts hi3 hown hK hP 0 rfl rfl 12 (by decide) hk4 (fun _ h9 => h9) rfl dX3_addSort_40 ?_
    refine lv_aload_n hx hb dX3_addSort_43 rfl (lv_at hl 0 rfl) ?_
    refine va_get (D := (dC, dI)) (ci := 3) (v := .int h0_sorts) (C := RX3) (T := TX3) (N := 16) hx hb hts hi3 hown hK hP 0 rfl rfl 2 (by decide) hk0 (fun _ h9 => h9) rfl dX3_addSort_44 ?_
    refine lv_iload hx hb dX3_addSort_47 (lv_at hl 4 rfl) ?_
    refine y_iast hx hb hK hP hD hS 4 1 rfl rfl (z_in rfl (by omega) (by omega)) dX3_addSort_49 (fun H locs g13 h14 hP hD hS => ?_)
    have hP : va_P (dC, dI) vwCl [(h0, .inr (3, [.int h0_lines, .int h0_laws, .int h0_sorts, .int h0_shares, .int h0_parts, .int h0_noise, .int h0_noiseTold, .ref h0_enter, .ref h0_leave, .ref h0_share, .ref h0_gift, .ref h0_wish, .ref h0_spread, .ref h0_leakBy, .ref h0_joint, .ref h0_part])), (h0_share, .inl (cI, 8, .inl g3)), (h0_gift, .inl (cI, 8, .inl g6)), (h0_wish, .inl (cI, 8, .inl g9)), (h0_spread, .inl (cI, 8, .inl g13))] H := hP
    have hD : va_D A [(h0, .inr (3, [.int h0_lines, .int h0_laws, .int h0_sorts, .int h0_shares, .int h0_parts, .int h0_noise, .int h0_noiseTold, .ref h0_enter, .ref h0_leave, .ref h0_share, .ref h0_gift, .ref h0_wish, .ref h0_spread, .ref h0_leakBy, .ref h0_joint, .ref h0_part])), (h0_share, .inl (cI, 8, .inl g3)), (h0_gift, .inl (cI, 8, .inl g6)), (h0_wish, .inl (cI, 8, .inl g9)), (h0_spread, .inl (cI, 8, .inl g13))] := hD
    have z15 : zR 0 60 g13 := zR_upd h14 z_h0_spread rfl (by omega) (by omega)
    have f16 : (g13 h0_sorts.toNatClampNeg).toInt = p4.toInt := z_updT h14 rfl
    refine lv_aload_n hx hb dX3_addSort_50 rfl (lv_at hl 0 rfl) ?_
    refine lv_dup hx hb dX3_addSort_51 rfl ?_
    refine va_get (D := (dC, dI)) (ci := 3) (v := .int h0_shares) (C := RX3) (T := TX3) (N := 16) hx hb hts hi3 hown hK hP 0 rfl rfl 3 (by decide) hk5 (fun _ h9 => h9) rfl dX3_addSort_52 ?_
    refine lv_iload_n hx hb dX3_addSort_55 rfl (lv_at hl 1 rfl) ?_
    refine lv_iadd hx hb dX3_addSort_56 ?_
    refine lv_topi (fun r17 _ => ?_)
    refine va_put (D := (dC, dI)) (ci := 3) (v := .int r17) (ty := .int) (C := RX3) (T := TX3) (N := 16) hx hb hts hi3 tyX3 tyX3_ok nmX3 hown hK hP hD hS 0 rfl rfl 3 (by decide) hk5 (fun _ h9 => h9) rfl (by decide +kernel) rfl rfl (Nat.le_of_ble_eq_true rfl) dX3_addSort_57 (fun H locs hP hD hS => ?_)
    have hP : va_P (dC, dI) vwCl [(h0, .inr (3, [.int h0_lines, .int h0_laws, .int h0_sorts, .int r17, .int h0_parts, .int h0_noise, .int h0_noiseTold, .ref h0_enter, .ref h0_leave, .ref h0_share, .ref h0_gift, .ref h0_wish, .ref h0_spread, .ref h0_leakBy, .ref h0_joint, .ref h0_part])), (h0_share, .inl (cI, 8, .inl g3)), (h0_gift, .inl (cI, 8, .inl g6)), (h0_wish, .inl (cI, 8, .inl g9)), (h0_spread, .inl (cI, 8, .inl g13))] H := hP
    have hD : va_D A [(h0, .inr (3, [.int h0_lines, .int h0_laws, .int h0_sorts, .int r17, .int h0_parts, .int h0_noise, .int h0_noiseTold, .ref h0_enter, .ref h0_leave, .ref h0_share, .ref h0_gift, .ref h0_wish, .ref h0_spread, .ref h0_leakBy, .ref h0_joint, .ref h0_part])), (h0_share, .inl (cI, 8, .inl g3)), (h0_gift, .inl (cI, 8, .inl g6)), (h0_wish, .inl (cI, 8, .inl g9)), (h0_spread, .inl (cI, 8, .inl g13))] := hD
    refine lv_aload_n hx hb dX3_addSort_60 rfl (lv_at hl 0 rfl) ?_
    refine lv_dup hx hb dX3_addSort_61 rfl ?_
    refine va_get (D := (dC, dI)) (ci := 3) (v := .int h0_sorts) (C := RX3) (T := TX3) (N := 16) hx hb hts hi3 hown hK hP 0 rfl rfl 2 (by decide) hk0 (fun _ h9 => h9) rfl dX3_addSort_62 ?_
    refine lv_iconst (v := 1) hx hb dX3_addSort_65 (by decide) ?_
    refine lv_iadd hx hb dX3_addSort_66 ?_
    refine lv_topi (fun r18 h19 => ?_)
    have f20 : r18.toInt = h0_sorts.toInt + 1 := z_iadd h19 rfl (by decide) (by omega) (by omega)
    refine va_put (D := (dC, dI)) (ci := 3) (v := .int r18) (ty := .int) (C := RX3) (T := TX3) (N := 16) hx hb hts hi3 tyX3 tyX3_ok nmX3 hown hK hP hD hS 0 rfl rfl 2 (by decide) hk0 (fun _ h9 => h9) rfl (by decide +kernel) rfl rfl (Nat.le_of_ble_eq_true rfl) dX3_addSort_67 (fun H locs hP hD hS => ?_)
    have hP : va_P (dC, dI) vwCl [(h0, .inr (3, [.int h0_lines, .int h0_laws, .int r18, .int r17, .int h0_parts, .int h0_noise, .int h0_noiseTold, .ref h0_enter, .ref h0_leave, .ref h0_share, .ref h0_gift, .ref h0_wish, .ref h0_spread, .ref h0_leakBy, .ref h0_joint, .ref h0_part])), (h0_share, .inl (cI, 8, .inl g3)), (h0_gift, .inl (cI, 8, .inl g6)), (h0_wish, .inl (cI, 8, .inl g9)), (h0_spread, .inl (cI, 8, .inl g13))] H := hP
    have hD : va_D A [(h0, .inr (3, [.int h0_lines, .int h0_laws, .int r18, .int r17, .int h0_parts, .int h0_noise, .int h0_noiseTold, .ref h0_enter, .ref h0_leave, .ref h0_share, .ref h0_gift, .ref h0_wish, .ref h0_spread, .ref h0_leakBy, .ref h0_joint, .ref h0_part])), (h0_share, .inl (cI, 8, .inl g3)), (h0_gift, .inl (cI, 8, .inl g6)), (h0_wish, .inl (cI, 8, .inl g9)), (h0_spread, .inl (cI, 8, .inl g13))] := hD
    exact y_vret ((r18, r17, g3, g6, g9, g13) : Int32 × Int32 × (Nat → Int32) × (Nat → Int32) × (Nat → Int32) × (Nat → Int32)) hx hb hr hlocks hK hP hD hS hAe hQ rfl ⟨(show 0 ≤ h0_laws.toInt from by omega), (show h0_laws.toInt ≤ 6 from by omega), (show 0 ≤ r18.toInt from by omega), (show r18.toInt ≤ 8 from by omega), (show 0 ≤ h0_parts.toInt from by omega), (show h0_parts.toInt ≤ 120 from by omega), (show 0 ≤ h0_noiseTold.toInt from by omega), (show h0_noiseTold.toInt ≤ 1 from by omega), z11, z15⟩ dX3_addSort_70
set_option maxHeartbeats 8000000 in
set_option maxRecDepth 100000 in
theorem k_X3_canBeDrawnFrom (l : Launch) (dC : Nat → ClassId) (dI : Nat → Nat → Nat) (cB cI cJ cZ cP cQ : ClassId) (h0 : Nat) (h0_enter : Nat) (h0_leave : Nat) (h0_share : Nat) (h0_gift : Nat) (h0_wish : Nat) (h0_spread : Nat) (h0_leakBy : Nat) (h0_joint : Nat) (h0_part : Nat) (sz : Nat) (h0_lines : Int32) (h0_laws : Int32) (h0_sorts : Int32) (h0_shares : Int32) (h0_parts : Int32) (h0_noise : Int32) (h0_noiseTold : Int32) (e0 : 0 ≤ h0_laws.toInt) (e1 : h0_laws.toInt ≤ 6) (e2 : 0 ≤ h0_sorts.toInt) (e3 : h0_sorts.toInt ≤ 8) (e4 : 0 ≤ h0_parts.toInt) (e5 : h0_parts.toInt ≤ 120) (e6 : 0 ≤ h0_noiseTold.toInt) (e7 : h0_noiseTold.toInt ≤ 1) : Met l yX3_canBeDrawnFrom wsX3_canBeDrawnFrom ({ frames := 0, cells := 0, slots := 0, locals := 0 } : Room) (zPc [.ref h0] (dC, dI) (zT cB cI cJ cZ cP cQ) [(h0, .inr (3, [.int h0_lines, .int h0_laws, .int h0_sorts, .int h0_shares, .int h0_parts, .int h0_noise, .int h0_noiseTold, .ref h0_enter, .ref h0_leave, .ref h0_share, .ref h0_gift, .ref h0_wish, .ref h0_spread, .ref h0_leakBy, .ref h0_joint, .ref h0_part]))] sz [] []) (va_Qi (fun (r : Int32) (u : Unit) => (r = 0 ∧ (h0_laws.toInt ≤ 0 ∨ (0 < h0_laws.toInt ∧ h0_sorts.toInt ≤ 0))) ∨ (r = 1 ∧ 0 < h0_laws.toInt ∧ 0 < h0_sorts.toInt)) (zB (dC, dI) (zT cB cI cJ cZ cP cQ) (fun u : Unit => [(h0, .inr (3, [.int h0_lines, .int h0_laws, .int h0_sorts, .int h0_shares, .int h0_parts, .int h0_noise, .int h0_noiseTold, .ref h0_enter, .ref h0_leave, .ref h0_share, .ref h0_gift, .ref h0_wish, .ref h0_spread, .ref h0_leakBy, .ref h0_joint, .ref h0_part]))]) [(h0, .inr (3, [.int h0_lines, .int h0_laws, .int h0_sorts, .int h0_shares, .int h0_parts, .int h0_noise, .int h0_noiseTold, .ref h0_enter, .ref h0_leave, .ref h0_share, .ref h0_gift, .ref h0_wish, .ref h0_spread, .ref h0_leakBy, .ref h0_joint, .ref h0_part]))] sz) (va_A [(h0, .inr (3, [.int h0_lines, .int h0_laws, .int h0_sorts, .int h0_shares, .int h0_parts, .int h0_noise, .int h0_noiseTold, .ref h0_enter, .ref h0_leave, .ref h0_share, .ref h0_gift, .ref h0_wish, .ref h0_spread, .ref h0_leakBy, .ref h0_joint, .ref h0_part]))] sz)) 0 0 (va_A [(h0, .inr (3, [.int h0_lines, .int h0_laws, .int h0_sorts, .int h0_shares, .int h0_parts, .int h0_noise, .int h0_noiseTold, .ref h0_enter, .ref h0_leave, .ref h0_share, .ref h0_gift, .ref h0_wish, .ref h0_spread, .ref h0_leakBy, .ref h0_joint, .ref h0_part]))] sz) := by
  refine z_enter (cc := cX3_canBeDrawnFrom) (maxL := 1) (ret := (some .boolean)) (by decide) rfl (Nat.le_of_ble_eq_true rfl) ?_
  intro p e s m below meth c A ls Q H locs hx hb hr hml hown hts hlocks hin hK hP hD hA hX hS hAe hQ hl
  have hown : s.vm.findClass RX3 = some m.cls := hown
  have hi3 : ∀ w ∈ wsX30, w ∈ wsX3_canBeDrawnFrom := fun w h => List.mem_cons_of_mem _ (List.mem_append_right _ h)
  have hk0 := hts (.fieldLink RX3 49 "MonthPush$Land" "laws" "I") (by decide +kernel)
  have hk1 := hts (.fieldLink RX3 52 "MonthPush$Land" "sorts" "I") (by decide +kernel)
  have hl : lv_has ls 1 [(0, .ref h0)] := hl
  refine lv_aload_n hx hb dX3_canBeDrawnFrom_0 rfl (lv_at hl 0 rfl) ?_
  refine va_get (D := (dC, dI)) (ci := 3) (v := .int h0_laws) (C := RX3) (T := TX3) (N := 16) hx hb hts hi3 hown hK hP 0 rfl rfl 1 (by decide) hk0 (fun _ h9 => h9) rfl dX3_canBeDrawnFrom_1 ?_
  refine lv_if_le (tgt := 18) hx hb dX3_canBeDrawnFrom_4 (by decide) (fun c_1 => ?_) (fun c_1 => ?_)
  · have f2 : h0_laws.toInt ≤ 0 := z_le rfl (by decide) c_1
    refine lv_iconst (v := 0) hx hb dX3_canBeDrawnFrom_18 (by decide) ?_
    exact y_zret () hx hb hr hlocks hK hP hD hS hAe hQ rfl (Or.inl ⟨rfl, (Or.inl f2)⟩) (by decide) dX3_canBeDrawnFrom_19
  · have f2 : 0 < h0_laws.toInt := z_nle rfl (by decide) c_1
    refine lv_aload_n hx hb dX3_canBeDrawnFrom_7 rfl (lv_at hl 0 rfl) ?_
    refine va_get (D := (dC, dI)) (ci := 3) (v := .int h0_sorts) (C := RX3) (T := TX3) (N := 16) hx hb hts hi3 hown hK hP 0 rfl rfl 2 (by decide) hk1 (fun _ h9 => h9) rfl dX3_canBeDrawnFrom_8 ?_
    refine lv_if_le (tgt := 18) hx hb dX3_canBeDrawnFrom_11 (by decide) (fun c_3 => ?_) (fun c_3 => ?_)
    · have f4 : h0_sorts.toInt ≤ 0 := z_le rfl (by decide) c_3
      refine lv_iconst (v := 0) hx hb dX3_canBeDrawnFrom_18 (by decide) ?_
      exact y_zret () hx hb hr hlocks hK hP hD hS hAe hQ rfl (Or.inl ⟨rfl, (Or.inr ⟨f2, f4⟩)⟩) (by decide) dX3_canBeDrawnFrom_19
    · have f4 : 0 < h0_sorts.toInt := z_nle rfl (by decide) c_3
      refine lv_iconst (v := 1) hx hb dX3_canBeDrawnFrom_14 (by decide) ?_
      refine lv_goto (tgt := 19) hx hb dX3_canBeDrawnFrom_15 (by decide) ?_
      exact y_zret () hx hb hr hlocks hK hP hD hS hAe hQ rfl (Or.inr ⟨rfl, ⟨f2, f4⟩⟩) (by decide) dX3_canBeDrawnFrom_19
set_option maxHeartbeats 8000000 in
set_option maxRecDepth 100000 in
theorem k_X3_clear (l : Launch) (dC : Nat → ClassId) (dI : Nat → Nat → Nat) (cB cI cJ cZ cP cQ : ClassId) (h0 : Nat) (h0_enter : Nat) (h0_leave : Nat) (h0_share : Nat) (h0_gift : Nat) (h0_wish : Nat) (h0_spread : Nat) (h0_leakBy : Nat) (h0_joint : Nat) (h0_part : Nat) (sz : Nat) (h0_lines : Int32) (h0_laws : Int32) (h0_sorts : Int32) (h0_shares : Int32) (h0_parts : Int32) (h0_noise : Int32) (h0_noiseTold : Int32) (h0_leakBy_f : Nat → Int32) (e0 : 0 ≤ h0_laws.toInt) (e1 : h0_laws.toInt ≤ 6) (e2 : 0 ≤ h0_sorts.toInt) (e3 : h0_sorts.toInt ≤ 8) (e4 : 0 ≤ h0_parts.toInt) (e5 : h0_parts.toInt ≤ 120) (e6 : 0 ≤ h0_noiseTold.toInt) (e7 : h0_noiseTold.toInt ≤ 1) : Met l yX3_clear wsX3_clear ({ frames := 1, cells := 0, slots := 0, locals := 23 } : Room) (zPc [.ref h0] (dC, dI) (zT cB cI cJ cZ cP cQ) [(h0, .inr (3, [.int h0_lines, .int h0_laws, .int h0_sorts, .int h0_shares, .int h0_parts, .int h0_noise, .int h0_noiseTold, .ref h0_enter, .ref h0_leave, .ref h0_share, .ref h0_gift, .ref h0_wish, .ref h0_spread, .ref h0_leakBy, .ref h0_joint, .ref h0_part])), (h0_leakBy, .inl (cI, 13, .inl h0_leakBy_f))] sz [] []) (va_Qv (fun (u : Int32 × Int32 × Int32 × Int32 × Int32 × Int32 × Int32 × (Nat → Int32)) => 0 ≤ u.2.1.toInt ∧ u.2.1.toInt ≤ 6 ∧ 0 ≤ u.2.2.1.toInt ∧ u.2.2.1.toInt ≤ 8 ∧ 0 ≤ u.2.2.2.2.1.toInt ∧ u.2.2.2.2.1.toInt ≤ 120 ∧ 0 ≤ u.2.2.2.2.2.2.1.toInt ∧ u.2.2.2.2.2.2.1.toInt ≤ 1) (zB (dC, dI) (zT cB cI cJ cZ cP cQ) (fun u : Int32 × Int32 × Int32 × Int32 × Int32 × Int32 × Int32 × (Nat → Int32) => [(h0, .inr (3, [.int u.1, .int u.2.1, .int u.2.2.1, .int u.2.2.2.1, .int u.2.2.2.2.1, .int u.2.2.2.2.2.1, .int u.2.2.2.2.2.2.1, .ref h0_enter, .ref h0_leave, .ref h0_share, .ref h0_gift, .ref h0_wish, .ref h0_spread, .ref h0_leakBy, .ref h0_joint, .ref h0_part])), (h0_leakBy, .inl (cI, 13, .inl u.2.2.2.2.2.2.2))]) [(h0, .inr (3, [.int h0_lines, .int h0_laws, .int h0_sorts, .int h0_shares, .int h0_parts, .int h0_noise, .int h0_noiseTold, .ref h0_enter, .ref h0_leave, .ref h0_share, .ref h0_gift, .ref h0_wish, .ref h0_spread, .ref h0_leakBy, .ref h0_joint, .ref h0_part])), (h0_leakBy, .inl (cI, 13, .inl h0_leakBy_f))] sz) (va_A [(h0, .inr (3, [.int h0_lines, .int h0_laws, .int h0_sorts, .int h0_shares, .int h0_parts, .int h0_noise, .int h0_noiseTold, .ref h0_enter, .ref h0_leave, .ref h0_share, .ref h0_gift, .ref h0_wish, .ref h0_spread, .ref h0_leakBy, .ref h0_joint, .ref h0_part])), (h0_leakBy, .inl (cI, 13, .inl h0_leakBy_f))] sz)) 0 0 (va_A [(h0, .inr (3, [.int h0_lines, .int h0_laws, .int h0_sorts, .int h0_shares, .int h0_parts, .int h0_noise, .int h0_noiseTold, .ref h0_enter, .ref h0_leave, .ref h0_share, .ref h0_gift, .ref h0_wish, .ref h0_spread, .ref h0_leakBy, .ref h0_joint, .ref h0_part])), (h0_leakBy, .inl (cI, 13, .inl h0_leakBy_f))] sz) := by
  refine z_enter (cc := cX3_clear) (maxL := 1) (ret := none) (by decide) rfl (Nat.le_of_ble_eq_true rfl) ?_
  intro p e s m below meth c A ls Q H locs hx hb hr hml hown hts hlocks hin hK hP hD hA hX hS hAe hQ hl
  have hown : s.vm.findClass RX3 = some m.cls := hown
  have hi3 : ∀ w ∈ wsX30, w ∈ wsX3_clear := fun w h => List.mem_cons_of_mem _ (List.mem_append_right _ h)
  have hk0 := hts (.fieldLink RX3 45 "MonthPush$Land" "lines" "I") (by decide +kernel)
  have hk1 := hts (.fieldLink RX3 49 "MonthPush$Land" "laws" "I") (by decide +kernel)
  have hk2 := hts (.fieldLink RX3 52 "MonthPush$Land" "sorts" "I") (by decide +kernel)
  have hk3 := hts (.fieldLink RX3 55 "MonthPush$Land" "shares" "I") (by decide +kernel)
  have hk4 := hts (.fieldLink RX3 58 "MonthPush$Land" "parts" "I") (by decide +kernel)
  have hk5 := hts (.fieldLink RX3 61 "MonthPush$Land" "noise" "I") (by decide +kernel)
  have hk6 := hts (.fieldLink RX3 64 "MonthPush$Land" "noiseTold" "Z") (by decide +kernel)
  have hk7 := hts (.fieldLink RX3 30 "MonthPush$Land" "leakBy" "[I") (by decide +kernel)
  have hl : lv_has ls 1 [(0, .ref h0)] := hl
  refine lv_aload_n hx hb dX3_clear_0 rfl (lv_at hl 0 rfl) ?_
  refine lv_iconst (v := 0) hx hb dX3_clear_1 (by decide) ?_
  refine va_put (D := (dC, dI)) (ci := 3) (v := .int 0) (ty := .int) (C := RX3) (T := TX3) (N := 16) hx hb hts hi3 tyX3 tyX3_ok nmX3 hown hK hP hD hS 0 rfl rfl 0 (by decide) hk0 (fun _ h9 => h9) rfl (by decide +kernel) rfl rfl (Nat.le_of_ble_eq_true rfl) dX3_clear_2 (fun H locs hP hD hS => ?_)
  have hP : va_P (dC, dI) vwCl [(h0, .inr (3, [.int 0, .int h0_laws, .int h0_sorts, .int h0_shares, .int h0_parts, .int h0_noise, .int h0_noiseTold, .ref h0_enter, .ref h0_leave, .ref h0_share, .ref h0_gift, .ref h0_wish, .ref h0_spread, .ref h0_leakBy, .ref h0_joint, .ref h0_part])), (h0_leakBy, .inl (cI, 13, .inl h0_leakBy_f))] H := hP
  have hD : va_D A [(h0, .inr (3, [.int 0, .int h0_laws, .int h0_sorts, .int h0_shares, .int h0_parts, .int h0_noise, .int h0_noiseTold, .ref h0_enter, .ref h0_leave, .ref h0_share, .ref h0_gift, .ref h0_wish, .ref h0_spread, .ref h0_leakBy, .ref h0_joint, .ref h0_part])), (h0_leakBy, .inl (cI, 13, .inl h0_leakBy_f))] := hD
  refine lv_aload_n hx hb dX3_clear_5 rfl (lv_at hl 0 rfl) ?_
  refine lv_iconst (v := 0) hx hb dX3_clear_6 (by decide) ?_
  refine va_put (D := (dC, dI)) (ci := 3) (v := .int 0) (ty := .int) (C := RX3) (T := TX3) (N := 16) hx hb hts hi3 tyX3 tyX3_ok nmX3 hown hK hP hD hS 0 rfl rfl 1 (by decide) hk1 (fun _ h9 => h9) rfl (by decide +kernel) rfl rfl (Nat.le_of_ble_eq_true rfl) dX3_clear_7 (fun H locs hP hD hS => ?_)
  have hP : va_P (dC, dI) vwCl [(h0, .inr (3, [.int 0, .int 0, .int h0_sorts, .int h0_shares, .int h0_parts, .int h0_noise, .int h0_noiseTold, .ref h0_enter, .ref h0_leave, .ref h0_share, .ref h0_gift, .ref h0_wish, .ref h0_spread, .ref h0_leakBy, .ref h0_joint, .ref h0_part])), (h0_leakBy, .inl (cI, 13, .inl h0_leakBy_f))] H := hP
  have hD : va_D A [(h0, .inr (3, [.int 0, .int 0, .int h0_sorts, .int h0_shares, .int h0_parts, .int h0_noise, .int h0_noiseTold, .ref h0_enter, .ref h0_leave, .ref h0_share, .ref h0_gift, .ref h0_wish, .ref h0_spread, .ref h0_leakBy, .ref h0_joint, .ref h0_part])), (h0_leakBy, .inl (cI, 13, .inl h0_leakBy_f))] := hD
  refine lv_aload_n hx hb dX3_clear_10 rfl (lv_at hl 0 rfl) ?_
  refine lv_iconst (v := 0) hx hb dX3_clear_11 (by decide) ?_
  refine va_put (D := (dC, dI)) (ci := 3) (v := .int 0) (ty := .int) (C := RX3) (T := TX3) (N := 16) hx hb hts hi3 tyX3 tyX3_ok nmX3 hown hK hP hD hS 0 rfl rfl 2 (by decide) hk2 (fun _ h9 => h9) rfl (by decide +kernel) rfl rfl (Nat.le_of_ble_eq_true rfl) dX3_clear_12 (fun H locs hP hD hS => ?_)
  have hP : va_P (dC, dI) vwCl [(h0, .inr (3, [.int 0, .int 0, .int 0, .int h0_shares, .int h0_parts, .int h0_noise, .int h0_noiseTold, .ref h0_enter, .ref h0_leave, .ref h0_share, .ref h0_gift, .ref h0_wish, .ref h0_spread, .ref h0_leakBy, .ref h0_joint, .ref h0_part])), (h0_leakBy, .inl (cI, 13, .inl h0_leakBy_f))] H := hP
  have hD : va_D A [(h0, .inr (3, [.int 0, .int 0, .int 0, .int h0_shares, .int h0_parts, .int h0_noise, .int h0_noiseTold, .ref h0_enter, .ref h0_leave, .ref h0_share, .ref h0_gift, .ref h0_wish, .ref h0_spread, .ref h0_leakBy, .ref h0_joint, .ref h0_part])), (h0_leakBy, .inl (cI, 13, .inl h0_leakBy_f))] := hD
  refine lv_aload_n hx hb dX3_clear_15 rfl (lv_at hl 0 rfl) ?_
  refine lv_iconst (v := 0) hx hb dX3_clear_16 (by decide) ?_
  refine va_put (D := (dC, dI)) (ci := 3) (v := .int 0) (ty := .int) (C := RX3) (T := TX3) (N := 16) hx hb hts hi3 tyX3 tyX3_ok nmX3 hown hK hP hD hS 0 rfl rfl 3 (by decide) hk3 (fun _ h9 => h9) rfl (by decide +kernel) rfl rfl (Nat.le_of_ble_eq_true rfl) dX3_clear_17 (fun H locs hP hD hS => ?_)
  have hP : va_P (dC, dI) vwCl [(h0, .inr (3, [.int 0, .int 0, .int 0, .int 0, .int h0_parts, .int h0_noise, .int h0_noiseTold, .ref h0_enter, .ref h0_leave, .ref h0_share, .ref h0_gift, .ref h0_wish, .ref h0_spread, .ref h0_leakBy, .ref h0_joint, .ref h0_part])), (h0_leakBy, .inl (cI, 13, .inl h0_leakBy_f))] H := hP
  have hD : va_D A [(h0, .inr (3, [.int 0, .int 0, .int 0, .int 0, .int h0_parts, .int h0_noise, .int h0_noiseTold, .ref h0_enter, .ref h0_leave, .ref h0_share, .ref h0_gift, .ref h0_wish, .ref h0_spread, .ref h0_leakBy, .ref h0_joint, .ref h0_part])), (h0_leakBy, .inl (cI, 13, .inl h0_leakBy_f))] := hD
  refine lv_aload_n hx hb dX3_clear_20 rfl (lv_at hl 0 rfl) ?_
  refine lv_iconst (v := 0) hx hb dX3_clear_21 (by decide) ?_
  refine va_put (D := (dC, dI)) (ci := 3) (v := .int 0) (ty := .int) (C := RX3) (T := TX3) (N := 16) hx hb hts hi3 tyX3 tyX3_ok nmX3 hown hK hP hD hS 0 rfl rfl 4 (by decide) hk4 (fun _ h9 => h9) rfl (by decide +kernel) rfl rfl (Nat.le_of_ble_eq_true rfl) dX3_clear_22 (fun H locs hP hD hS => ?_)
  have hP : va_P (dC, dI) vwCl [(h0, .inr (3, [.int 0, .int 0, .int 0, .int 0, .int 0, .int h0_noise, .int h0_noiseTold, .ref h0_enter, .ref h0_leave, .ref h0_share, .ref h0_gift, .ref h0_wish, .ref h0_spread, .ref h0_leakBy, .ref h0_joint, .ref h0_part])), (h0_leakBy, .inl (cI, 13, .inl h0_leakBy_f))] H := hP
  have hD : va_D A [(h0, .inr (3, [.int 0, .int 0, .int 0, .int 0, .int 0, .int h0_noise, .int h0_noiseTold, .ref h0_enter, .ref h0_leave, .ref h0_share, .ref h0_gift, .ref h0_wish, .ref h0_spread, .ref h0_leakBy, .ref h0_joint, .ref h0_part])), (h0_leakBy, .inl (cI, 13, .inl h0_leakBy_f))] := hD
  refine lv_aload_n hx hb dX3_clear_25 rfl (lv_at hl 0 rfl) ?_
  refine lv_iconst (v := 0) hx hb dX3_clear_26 (by decide) ?_
  refine va_put (D := (dC, dI)) (ci := 3) (v := .int 0) (ty := .int) (C := RX3) (T := TX3) (N := 16) hx hb hts hi3 tyX3 tyX3_ok nmX3 hown hK hP hD hS 0 rfl rfl 5 (by decide) hk5 (fun _ h9 => h9) rfl (by decide +kernel) rfl rfl (Nat.le_of_ble_eq_true rfl) dX3_clear_27 (fun H locs hP hD hS => ?_)
  have hP : va_P (dC, dI) vwCl [(h0, .inr (3, [.int 0, .int 0, .int 0, .int 0, .int 0, .int 0, .int h0_noiseTold, .ref h0_enter, .ref h0_leave, .ref h0_share, .ref h0_gift, .ref h0_wish, .ref h0_spread, .ref h0_leakBy, .ref h0_joint, .ref h0_part])), (h0_leakBy, .inl (cI, 13, .inl h0_leakBy_f))] H := hP
  have hD : va_D A [(h0, .inr (3, [.int 0, .int 0, .int 0, .int 0, .int 0, .int 0, .int h0_noiseTold, .ref h0_enter, .ref h0_leave, .ref h0_share, .ref h0_gift, .ref h0_wish, .ref h0_spread, .ref h0_leakBy, .ref h0_joint, .ref h0_part])), (h0_leakBy, .inl (cI, 13, .inl h0_leakBy_f))] := hD
  refine lv_aload_n hx hb dX3_clear_30 rfl (lv_at hl 0 rfl) ?_
  refine lv_iconst (v := 0) hx hb dX3_clear_31 (by decide) ?_
  refine va_put (D := (dC, dI)) (ci := 3) (v := .int 0) (ty := .boolean) (C := RX3) (T := TX3) (N := 16) hx hb hts hi3 tyX3 tyX3_ok nmX3 hown hK hP hD hS 0 rfl rfl 6 (by decide) hk6 (fun _ h9 => h9) rfl (by decide +kernel) rfl rfl (Nat.le_of_ble_eq_true rfl) dX3_clear_32 (fun H locs hP hD hS => ?_)
  have hP : va_P (dC, dI) vwCl [(h0, .inr (3, [.int 0, .int 0, .int 0, .int 0, .int 0, .int 0, .int 0, .ref h0_enter, .ref h0_leave, .ref h0_share, .ref h0_gift, .ref h0_wish, .ref h0_spread, .ref h0_leakBy, .ref h0_joint, .ref h0_part])), (h0_leakBy, .inl (cI, 13, .inl h0_leakBy_f))] H := hP
  have hD : va_D A [(h0, .inr (3, [.int 0, .int 0, .int 0, .int 0, .int 0, .int 0, .int 0, .ref h0_enter, .ref h0_leave, .ref h0_share, .ref h0_gift, .ref h0_wish, .ref h0_spread, .ref h0_leakBy, .ref h0_joint, .ref h0_part])), (h0_leakBy, .inl (cI, 13, .inl h0_leakBy_f))] := hD
  refine lv_aload_n hx hb dX3_clear_35 rfl (lv_at hl 0 rfl) ?_
  refine va_get (D := (dC, dI)) (ci := 3) (v := .ref h0_leakBy) (C := RX3) (T := TX3) (N := 16) hx hb hts hi3 hown hK hP 0 rfl rfl 13 (by decide) hk7 (fun _ h9 => h9) rfl dX3_clear_36 ?_
  refine lv_iconst (v := (-1)) hx hb dX3_clear_39 (by decide) ?_
  refine z_finv (w' := fun (u1 : Unit) => [(h0, .inr (3, [.int 0, .int 0, .int 0, .int 0, .int 0, .int 0, .int 0, .ref h0_enter, .ref h0_leave, .ref h0_share, .ref h0_gift, .ref h0_wish, .ref h0_spread, .ref h0_leakBy, .ref h0_joint, .ref h0_part])), (h0_leakBy, .inl (cI, 13, .inl (fun _ => (-1))))]) (va_runS (As := [.ref h0_leakBy, .int (-1)]) (rest := []) ⟨hx, hb, hml, hown, hts⟩ (c_fillI l dC dI cB cI cJ cZ cP cQ h0_leakBy H.size 13 h0_leakBy_f (-1) (by decide)) (va_cwS 2 hts gX3_clear_J7_fill_53178 rfl rfl rfl (by decide +kernel) ⟨Nat.le_of_ble_eq_true rfl, Nat.le_of_ble_eq_true rfl⟩) (z_pS hK hP hD zX_nil [1] (by decide) rfl) rfl rfl hl.1 rfl (lv_room (Nat.le_of_ble_eq_true rfl)) dX3_clear_40 ⟨Nat.le_of_ble_eq_true rfl, Nat.le_of_ble_eq_true rfl⟩) hP hD hS hA [1] [0] [0, 1] rfl rfl (by decide) (by decide) (fun _ => rfl) (by decide) (fun u1 H locs hp3 hP hD hS => ?_)
  have hP : va_P (dC, dI) vwCl [(h0, .inr (3, [.int 0, .int 0, .int 0, .int 0, .int 0, .int 0, .int 0, .ref h0_enter, .ref h0_leave, .ref h0_share, .ref h0_gift, .ref h0_wish, .ref h0_spread, .ref h0_leakBy, .ref h0_joint, .ref h0_part])), (h0_leakBy, .inl (cI, 13, .inl (fun _ => (-1))))] H := hP
  have hD : va_D A [(h0, .inr (3, [.int 0, .int 0, .int 0, .int 0, .int 0, .int 0, .int 0, .ref h0_enter, .ref h0_leave, .ref h0_share, .ref h0_gift, .ref h0_wish, .ref h0_spread, .ref h0_leakBy, .ref h0_joint, .ref h0_part])), (h0_leakBy, .inl (cI, 13, .inl (fun _ => (-1))))] := hD
  obtain ⟨g4, h5⟩ : ∃ g : Nat → Int32, g = fun _ => (-1) := ⟨_, rfl⟩
  rw [← h5] at hP hD
  exact y_vret ((0, 0, 0, 0, 0, 0, 0, g4) : Int32 × Int32 × Int32 × Int32 × Int32 × Int32 × Int32 × (Nat → Int32)) hx hb hr hlocks hK hP hD hS hAe hQ rfl ⟨(show 0 ≤ (0 : Int) from by omega), (show (0 : Int) ≤ 6 from by omega), (show 0 ≤ (0 : Int) from by omega), (show (0 : Int) ≤ 8 from by omega), (show 0 ≤ (0 : Int) from by omega), (show (0 : Int) ≤ 120 from by omega), (show 0 ≤ (0 : Int) from by omega), (show (0 : Int) ≤ 1 from by omega)⟩ dX3_clear_43
set_option maxHeartbeats 8000000 in
set_option maxRecDepth 100000 in
theorem k_X3_copyOf (l : Launch) (dC : Nat → ClassId) (dI : Nat → Nat → Nat) (cB cI cJ cZ cP cQ : ClassId) (h0 : Nat) (h1 : Nat) (h0_enter : Nat) (h0_leave : Nat) (h0_share : Nat) (h0_gift : Nat) (h0_wish : Nat) (h0_spread : Nat) (h0_leakBy : Nat) (h0_joint : Nat) (h0_part : Nat) (h1_enter : Nat) (h1_leave : Nat) (h1_share : Nat) (h1_gift : Nat) (h1_wish : Nat) (h1_spread : Nat) (h1_leakBy : Nat) (h1_joint : Nat) (h1_part : Nat) (sz : Nat) (h0_lines : Int32) (h0_laws : Int32) (h0_sorts : Int32) (h0_shares : Int32) (h0_parts : Int32) (h0_noise : Int32) (h0_noiseTold : Int32) (h0_enter_f : Nat → Int32) (h0_leave_f : Nat → Int32) (h0_share_f : Nat → Int32) (h0_gift_f : Nat → Int32) (h0_wish_f : Nat → Int32) (h0_spread_f : Nat → Int32) (h0_leakBy_f : Nat → Int32) (h0_joint_f : Nat → Int32) (h0_part_f : Nat → Int32) (h1_lines : Int32) (h1_laws : Int32) (h1_sorts : Int32) (h1_shares : Int32) (h1_parts : Int32) (h1_noise : Int32) (h1_noiseTold : Int32) (h1_enter_f : Nat → Int32) (h1_leave_f : Nat → Int32) (h1_share_f : Nat → Int32) (h1_gift_f : Nat → Int32) (h1_wish_f : Nat → Int32) (h1_spread_f : Nat → Int32) (h1_leakBy_f : Nat → Int32) (h1_joint_f : Nat → Int32) (h1_part_f : Nat → Int32) (e0 : 0 ≤ h0_laws.toInt) (e1 : h0_laws.toInt ≤ 6) (e2 : 0 ≤ h0_sorts.toInt) (e3 : h0_sorts.toInt ≤ 8) (e4 : 0 ≤ h0_parts.toInt) (e5 : h0_parts.toInt ≤ 120) (e6 : 0 ≤ h0_noiseTold.toInt) (e7 : h0_noiseTold.toInt ≤ 1) (z_h0_wish : zR 0 240 h0_wish_f) (z_h0_spread : zR 0 60 h0_spread_f) (e10 : 0 ≤ h1_laws.toInt) (e11 : h1_laws.toInt ≤ 6) (e12 : 0 ≤ h1_sorts.toInt) (e13 : h1_sorts.toInt ≤ 8) (e14 : 0 ≤ h1_parts.toInt) (e15 : h1_parts.toInt ≤ 120) (e16 : 0 ≤ h1_noiseTold.toInt) (e17 : h1_noiseTold.toInt ≤ 1) (z_h1_wish : zR 0 240 h1_wish_f) (z_h1_spread : zR 0 60 h1_spread_f) : Met l yX3_copyOf wsX3_copyOf ({ frames := 1, cells := 0, slots := 0, locals := 80 } : Room) (zPc [.ref h0, .ref h1] (dC, dI) (zT cB cI cJ cZ cP cQ) [(h0, .inr (3, [.int h0_lines, .int h0_laws, .int h0_sorts, .int h0_shares, .int h0_parts, .int h0_noise, .int h0_noiseTold, .ref h0_enter, .ref h0_leave, .ref h0_share, .ref h0_gift, .ref h0_wish, .ref h0_spread, .ref h0_leakBy, .ref h0_joint, .ref h0_part])), (h0_enter, .inl (cI, 6, .inl h0_enter_f)), (h0_leave, .inl (cI, 6, .inl h0_leave_f)), (h0_share, .inl (cI, 8, .inl h0_share_f)), (h0_gift, .inl (cI, 8, .inl h0_gift_f)), (h0_wish, .inl (cI, 8, .inl h0_wish_f)), (h0_spread, .inl (cI, 8, .inl h0_spread_f)), (h0_leakBy, .inl (cI, 13, .inl h0_leakBy_f)), (h0_joint, .inl (cI, 120, .inl h0_joint_f)), (h0_part, .inl (cI, 120, .inl h0_part_f)), (h1, .inr (3, [.int h1_lines, .int h1_laws, .int h1_sorts, .int h1_shares, .int h1_parts, .int h1_noise, .int h1_noiseTold, .ref h1_enter, .ref h1_leave, .ref h1_share, .ref h1_gift, .ref h1_wish, .ref h1_spread, .ref h1_leakBy, .ref h1_joint, .ref h1_part])), (h1_enter, .inl (cI, 6, .inl h1_enter_f)), (h1_leave, .inl (cI, 6, .inl h1_leave_f)), (h1_share, .inl (cI, 8, .inl h1_share_f)), (h1_gift, .inl (cI, 8, .inl h1_gift_f)), (h1_wish, .inl (cI, 8, .inl h1_wish_f)), (h1_spread, .inl (cI, 8, .inl h1_spread_f)), (h1_leakBy, .inl (cI, 13, .inl h1_leakBy_f)), (h1_joint, .inl (cI, 120, .inl h1_joint_f)), (h1_part, .inl (cI, 120, .inl h1_part_f))] sz [] []) (va_Qv (fun (u : Int32 × Int32 × Int32 × Int32 × Int32 × Int32 × Int32 × (Nat → Int32) × (Nat → Int32) × (Nat → Int32) × (Nat → Int32) × (Nat → Int32) × (Nat → Int32) × (Nat → Int32) × (Nat → Int32) × (Nat → Int32)) => 0 ≤ u.2.1.toInt ∧ u.2.1.toInt ≤ 6 ∧ 0 ≤ u.2.2.1.toInt ∧ u.2.2.1.toInt ≤ 8 ∧ 0 ≤ u.2.2.2.2.1.toInt ∧ u.2.2.2.2.1.toInt ≤ 120 ∧ 0 ≤ u.2.2.2.2.2.2.1.toInt ∧ u.2.2.2.2.2.2.1.toInt ≤ 1 ∧ zR 0 240 u.2.2.2.2.2.2.2.2.2.2.2.1 ∧ zR 0 60 u.2.2.2.2.2.2.2.2.2.2.2.2.1) (zB (dC, dI) (zT cB cI cJ cZ cP cQ) (fun u : Int32 × Int32 × Int32 × Int32 × Int32 × Int32 × Int32 × (Nat → Int32) × (Nat → Int32) × (Nat → Int32) × (Nat → Int32) × (Nat → Int32) × (Nat → Int32) × (Nat → Int32) × (Nat → Int32) × (Nat → Int32) => [(h0, .inr (3, [.int u.1, .int u.2.1, .int u.2.2.1, .int u.2.2.2.1, .int u.2.2.2.2.1, .int u.2.2.2.2.2.1, .int u.2.2.2.2.2.2.1, .ref h0_enter, .ref h0_leave, .ref h0_share, .ref h0_gift, .ref h0_wish, .ref h0_spread, .ref h0_leakBy, .ref h0_joint, .ref h0_part])), (h0_enter, .inl (cI, 6, .inl u.2.2.2.2.2.2.2.1)), (h0_leave, .inl (cI, 6, .inl u.2.2.2.2.2.2.2.2.1)), (h0_share, .inl (cI, 8, .inl u.2.2.2.2.2.2.2.2.2.1)), (h0_gift, .inl (cI, 8, .inl u.2.2.2.2.2.2.2.2.2.2.1)), (h0_wish, .inl (cI, 8, .inl u.2.2.2.2.2.2.2.2.2.2.2.1)), (h0_spread, .inl (cI, 8, .inl u.2.2.2.2.2.2.2.2.2.2.2.2.1)), (h0_leakBy, .inl (cI, 13, .inl u.2.2.2.2.2.2.2.2.2.2.2.2.2.1)), (h0_joint, .inl (cI, 120, .inl u.2.2.2.2.2.2.2.2.2.2.2.2.2.2.1)), (h0_part, .inl (cI, 120, .inl u.2.2.2.2.2.2.2.2.2.2.2.2.2.2.2)), (h1, .inr (3, [.int h1_lines, .int h1_laws, .int h1_sorts, .int h1_shares, .int h1_parts, .int h1_noise, .int h1_noiseTold, .ref h1_enter, .ref h1_leave, .ref h1_share, .ref h1_gift, .ref h1_wish, .ref h1_spread, .ref h1_leakBy, .ref h1_joint, .ref h1_part])), (h1_enter, .inl (cI, 6, .inl h1_enter_f)), (h1_leave, .inl (cI, 6, .inl h1_leave_f)), (h1_share, .inl (cI, 8, .inl h1_share_f)), (h1_gift, .inl (cI, 8, .inl h1_gift_f)), (h1_wish, .inl (cI, 8, .inl h1_wish_f)), (h1_spread, .inl (cI, 8, .inl h1_spread_f)), (h1_leakBy, .inl (cI, 13, .inl h1_leakBy_f)), (h1_joint, .inl (cI, 120, .inl h1_joint_f)), (h1_part, .inl (cI, 120, .inl h1_part_f))]) [(h0, .inr (3, [.int h0_lines, .int h0_laws, .int h0_sorts, .int h0_shares, .int h0_parts, .int h0_noise, .int h0_noiseTold, .ref h0_enter, .ref h0_leave, .ref h0_share, .ref h0_gift, .ref h0_wish, .ref h0_spread, .ref h0_leakBy, .ref h0_joint, .ref h0_part])), (h0_enter, .inl (cI, 6, .inl h0_enter_f)), (h0_leave, .inl (cI, 6, .inl h0_leave_f)), (h0_share, .inl (cI, 8, .inl h0_share_f)), (h0_gift, .inl (cI, 8, .inl h0_gift_f)), (h0_wish, .inl (cI, 8, .inl h0_wish_f)), (h0_spread, .inl (cI, 8, .inl h0_spread_f)), (h0_leakBy, .inl (cI, 13, .inl h0_leakBy_f)), (h0_joint, .inl (cI, 120, .inl h0_joint_f)), (h0_part, .inl (cI, 120, .inl h0_part_f)), (h1, .inr (3, [.int h1_lines, .int h1_laws, .int h1_sorts, .int h1_shares, .int h1_parts, .int h1_noise, .int h1_noiseTold, .ref h1_enter, .ref h1_leave, .ref h1_share, .ref h1_gift, .ref h1_wish, .ref h1_spread, .ref h1_leakBy, .ref h1_joint, .ref h1_part])), (h1_enter, .inl (cI, 6, .inl h1_enter_f)), (h1_leave, .inl (cI, 6, .inl h1_leave_f)), (h1_share, .inl (cI, 8, .inl h1_share_f)), (h1_gift, .inl (cI, 8, .inl h1_gift_f)), (h1_wish, .inl (cI, 8, .inl h1_wish_f)), (h1_spread, .inl (cI, 8, .inl h1_spread_f)), (h1_leakBy, .inl (cI, 13, .inl h1_leakBy_f)), (h1_joint, .inl (cI, 120, .inl h1_joint_f)), (h1_part, .inl (cI, 120, .inl h1_part_f))] sz) (va_A [(h0, .inr (3, [.int h0_lines, .int h0_laws, .int h0_sorts, .int h0_shares, .int h0_parts, .int h0_noise, .int h0_noiseTold, .ref h0_enter, .ref h0_leave, .ref h0_share, .ref h0_gift, .ref h0_wish, .ref h0_spread, .ref h0_leakBy, .ref h0_joint, .ref h0_part])), (h0_enter, .inl (cI, 6, .inl h0_enter_f)), (h0_leave, .inl (cI, 6, .inl h0_leave_f)), (h0_share, .inl (cI, 8, .inl h0_share_f)), (h0_gift, .inl (cI, 8, .inl h0_gift_f)), (h0_wish, .inl (cI, 8, .inl h0_wish_f)), (h0_spread, .inl (cI, 8, .inl h0_spread_f)), (h0_leakBy, .inl (cI, 13, .inl h0_leakBy_f)), (h0_joint, .inl (cI, 120, .inl h0_joint_f)), (h0_part, .inl (cI, 120, .inl h0_part_f)), (h1, .inr (3, [.int h1_lines, .int h1_laws, .int h1_sorts, .int h1_shares, .int h1_parts, .int h1_noise, .int h1_noiseTold, .ref h1_enter, .ref h1_leave, .ref h1_share, .ref h1_gift, .ref h1_wish, .ref h1_spread, .ref h1_leakBy, .ref h1_joint, .ref h1_part])), (h1_enter, .inl (cI, 6, .inl h1_enter_f)), (h1_leave, .inl (cI, 6, .inl h1_leave_f)), (h1_share, .inl (cI, 8, .inl h1_share_f)), (h1_gift, .inl (cI, 8, .inl h1_gift_f)), (h1_wish, .inl (cI, 8, .inl h1_wish_f)), (h1_spread, .inl (cI, 8, .inl h1_spread_f)), (h1_leakBy, .inl (cI, 13, .inl h1_leakBy_f)), (h1_joint, .inl (cI, 120, .inl h1_joint_f)), (h1_part, .inl (cI, 120, .inl h1_part_f))] sz)) 0 0 (va_A [(h0, .inr (3, [.int h0_lines, .int h0_laws, .int h0_sorts, .int h0_shares, .int h0_parts, .int h0_noise, .int h0_noiseTold, .ref h0_enter, .ref h0_leave, .ref h0_share, .ref h0_gift, .ref h0_wish, .ref h0_spread, .ref h0_leakBy, .ref h0_joint, .ref h0_part])), (h0_enter, .inl (cI, 6, .inl h0_enter_f)), (h0_leave, .inl (cI, 6, .inl h0_leave_f)), (h0_share, .inl (cI, 8, .inl h0_share_f)), (h0_gift, .inl (cI, 8, .inl h0_gift_f)), (h0_wish, .inl (cI, 8, .inl h0_wish_f)), (h0_spread, .inl (cI, 8, .inl h0_spread_f)), (h0_leakBy, .inl (cI, 13, .inl h0_leakBy_f)), (h0_joint, .inl (cI, 120, .inl h0_joint_f)), (h0_part, .inl (cI, 120, .inl h0_part_f)), (h1, .inr (3, [.int h1_lines, .int h1_laws, .int h1_sorts, .int h1_shares, .int h1_parts, .int h1_noise, .int h1_noiseTold, .ref h1_enter, .ref h1_leave, .ref h1_share, .ref h1_gift, .ref h1_wish, .ref h1_spread, .ref h1_leakBy, .ref h1_joint, .ref h1_part])), (h1_enter, .inl (cI, 6, .inl h1_enter_f)), (h1_leave, .inl (cI, 6, .inl h1_leave_f)), (h1_share, .inl (cI, 8, .inl h1_share_f)), (h1_gift, .inl (cI, 8, .inl h1_gift_f)), (h1_wish, .inl (cI, 8, .inl h1_wish_f)), (h1_spread, .inl (cI, 8, .inl h1_spread_f)), (h1_leakBy, .inl (cI, 13, .inl h1_leakBy_f)), (h1_joint, .inl (cI, 120, .inl h1_joint_f)), (h1_part, .inl (cI, 120, .inl h1_part_f))] sz) := by
  refine z_enter (cc := cX3_copyOf) (maxL := 2) (ret := none) (by decide) rfl (Nat.le_of_ble_eq_true rfl) ?_
  intro p e s m below meth c A ls Q H locs hx hb hr hml hown hts hlocks hin hK hP hD hA hX hS hAe hQ hl
  have hown : s.vm.findClass RX3 = some m.cls := hown
  have hi3 : ∀ w ∈ wsX30, w ∈ wsX3_copyOf := fun w h => List.mem_cons_of_mem _ (List.mem_append_right _ h)
  have hk0 := hts (.fieldLink RX3 45 "MonthPush$Land" "lines" "I") (by decide +kernel)
  have hk1 := hts (.fieldLink RX3 49 "MonthPush$Land" "laws" "I") (by decide +kernel)
  have hk2 := hts (.fieldLink RX3 52 "MonthPush$Land" "sorts" "I") (by decide +kernel)
  have hk3 := hts (.fieldLink RX3 55 "MonthPush$Land" "shares" "I") (by decide +kernel)
  have hk4 := hts (.fieldLink RX3 58 "MonthPush$Land" "parts" "I") (by decide +kernel)
  have hk5 := hts (.fieldLink RX3 61 "MonthPush$Land" "noise" "I") (by decide +kernel)
  have hk6 := hts (.fieldLink RX3 64 "MonthPush$Land" "noiseTold" "Z") (by decide +kernel)
  have hk7 := hts (.fieldLink RX3 9 "MonthPush$Land" "enter" "[I") (by decide +kernel)
  have hk8 := hts (.methodLink RX3 68 arraycopyName) (by decide +kernel)
  have hk9 := hts (.native arraycopyName) (by decide +kernel)
  have hk10 := hts (.static arraycopyName) (by decide +kernel)
  have hk11 := hts (.initialized "java/lang/System") (by decide +kernel)
  have hk12 := hts (.fieldLink RX3 15 "MonthPush$Land" "leave" "[I") (by decide +kernel)
  have hk13 := hts (.fieldLink RX3 18 "MonthPush$Land" "share" "[I") (by decide +kernel)
  have hk14 := hts (.fieldLink RX3 21 "MonthPush$Land" "gift" "[I") (by decide +kernel)
  have hk15 := hts (.fieldLink RX3 24 "MonthPush$Land" "wish" "[I") (by decide +kernel)
  have hk16 := hts (.fieldLink RX3 27 "MonthPush$Land" "spread" "[I") (by decide +kernel)
  have hk17 := hts (.fieldLink RX3 30 "MonthPush$Land" "leakBy" "[I") (by decide +kernel)
  have hk18 := hts (.fieldLink RX3 33 "MonthPush$Land" "joint" "[I") (by decide +kernel)
  have hk19 := hts (.fieldLink RX3 36 "MonthPush$Land" "part" "[I") (by decide +kernel)
  have hl : lv_has ls 2 [(0, .ref h0), (1, .ref h1)] := hl
  refine lv_aload_n hx hb dX3_copyOf_0 rfl (lv_at hl 0 rfl) ?_
  refine lv_aload_n hx hb dX3_copyOf_1 rfl (lv_at hl 1 rfl) ?_
  refine va_get (D := (dC, dI)) (ci := 3) (v := .int h1_lines) (C := RX3) (T := TX3) (N := 16) hx hb hts hi3 hown hK hP 10 rfl rfl 0 (by decide) hk0 (fun _ h9 => h9) rfl dX3_copyOf_2 ?_
  refine va_put (D := (dC, dI)) (ci := 3) (v := .int h1_lines) (ty := .int) (C := RX3) (T := TX3) (N := 16) hx hb hts hi3 tyX3 tyX3_ok nmX3 hown hK hP hD hS 0 rfl rfl 0 (by decide) hk0 (fun _ h9 => h9) rfl (by decide +kernel) rfl rfl (Nat.le_of_ble_eq_true rfl) dX3_copyOf_5 (fun H locs hP hD hS => ?_)
  have hP : va_P (dC, dI) vwCl [(h0, .inr (3, [.int h1_lines, .int h0_laws, .int h0_sorts, .int h0_shares, .int h0_parts, .int h0_noise, .int h0_noiseTold, .ref h0_enter, .ref h0_leave, .ref h0_share, .ref h0_gift, .ref h0_wish, .ref h0_spread, .ref h0_leakBy, .ref h0_joint, .ref h0_part])), (h0_enter, .inl (cI, 6, .inl h0_enter_f)), (h0_leave, .inl (cI, 6, .inl h0_leave_f)), (h0_share, .inl (cI, 8, .inl h0_share_f)), (h0_gift, .inl (cI, 8, .inl h0_gift_f)), (h0_wish, .inl (cI, 8, .inl h0_wish_f)), (h0_spread, .inl (cI, 8, .inl h0_spread_f)), (h0_leakBy, .inl (cI, 13, .inl h0_leakBy_f)), (h0_joint, .inl (cI, 120, .inl h0_joint_f)), (h0_part, .inl (cI, 120, .inl h0_part_f)), (h1, .inr (3, [.int h1_lines, .int h1_laws, .int h1_sorts, .int h1_shares, .int h1_parts, .int h1_noise, .int h1_noiseTold, .ref h1_enter, .ref h1_leave, .ref h1_share, .ref h1_gift, .ref h1_wish, .ref h1_spread, .ref h1_leakBy, .ref h1_joint, .ref h1_part])), (h1_enter, .inl (cI, 6, .inl h1_enter_f)), (h1_leave, .inl (cI, 6, .inl h1_leave_f)), (h1_share, .inl (cI, 8, .inl h1_share_f)), (h1_gift, .inl (cI, 8, .inl h1_gift_f)), (h1_wish, .inl (cI, 8, .inl h1_wish_f)), (h1_spread, .inl (cI, 8, .inl h1_spread_f)), (h1_leakBy, .inl (cI, 13, .inl h1_leakBy_f)), (h1_joint, .inl (cI, 120, .inl h1_joint_f)), (h1_part, .inl (cI, 120, .inl h1_part_f))] H := hP
  have hD : va_D A [(h0, .inr (3, [.int h1_lines, .int h0_laws, .int h0_sorts, .int h0_shares, .int h0_parts, .int h0_noise, .int h0_noiseTold, .ref h0_enter, .ref h0_leave, .ref h0_share, .ref h0_gift, .ref h0_wish, .ref h0_spread, .ref h0_leakBy, .ref h0_joint, .ref h0_part])), (h0_enter, .inl (cI, 6, .inl h0_enter_f)), (h0_leave, .inl (cI, 6, .inl h0_leave_f)), (h0_share, .inl (cI, 8, .inl h0_share_f)), (h0_gift, .inl (cI, 8, .inl h0_gift_f)), (h0_wish, .inl (cI, 8, .inl h0_wish_f)), (h0_spread, .inl (cI, 8, .inl h0_spread_f)), (h0_leakBy, .inl (cI, 13, .inl h0_leakBy_f)), (h0_joint, .inl (cI, 120, .inl h0_joint_f)), (h0_part, .inl (cI, 120, .inl h0_part_f)), (h1, .inr (3, [.int h1_lines, .int h1_laws, .int h1_sorts, .int h1_shares, .int h1_parts, .int h1_noise, .int h1_noiseTold, .ref h1_enter, .ref h1_leave, .ref h1_share, .ref h1_gift, .ref h1_wish, .ref h1_spread, .ref h1_leakBy, .ref h1_joint, .ref h1_part])), (h1_enter, .inl (cI, 6, .inl h1_enter_f)), (h1_leave, .inl (cI, 6, .inl h1_leave_f)), (h1_share, .inl (cI, 8, .inl h1_share_f)), (h1_gift, .inl (cI, 8, .inl h1_gift_f)), (h1_wish, .inl (cI, 8, .inl h1_wish_f)), (h1_spread, .inl (cI, 8, .inl h1_spread_f)), (h1_leakBy, .inl (cI, 13, .inl h1_leakBy_f)), (h1_joint, .inl (cI, 120, .inl h1_joint_f)), (h1_part, .inl (cI, 120, .inl h1_part_f))] := hD
  refine lv_aload_n hx hb dX3_copyOf_8 rfl (lv_at hl 0 rfl) ?_
  refine lv_aload_n hx hb dX3_copyOf_9 rfl (lv_at hl 1 rfl) ?_
  refine va_get (D := (dC, dI)) (ci := 3) (v := .int h1_laws) (C := RX3) (T := TX3) (N := 16) hx hb hts hi3 hown hK hP 10 rfl rfl 1 (by decide) hk1 (fun _ h9 => h9) rfl dX3_copyOf_10 ?_
  refine va_put (D := (dC, dI)) (ci := 3) (v := .int h1_laws) (ty := .int) (C := RX3) (T := TX3) (N := 16) hx hb hts hi3 tyX3 tyX3_ok nmX3 hown hK hP hD hS 0 rfl rfl 1 (by decide) hk1 (fun _ h9 => h9) rfl (by decide +kernel) rfl rfl (Nat.le_of_ble_eq_true rfl) dX3_copyOf_13 (fun H locs hP hD hS => ?_)
  have hP : va_P (dC, dI) vwCl [(h0, .inr (3, [.int h1_lines, .int h1_laws, .int h0_sorts, .int h0_shares, .int h0_parts, .int h0_noise, .int h0_noiseTold, .ref h0_enter, .ref h0_leave, .ref h0_share, .ref h0_gift, .ref h0_wish, .ref h0_spread, .ref h0_leakBy, .ref h0_joint, .ref h0_part])), (h0_enter, .inl (cI, 6, .inl h0_enter_f)), (h0_leave, .inl (cI, 6, .inl h0_leave_f)), (h0_share, .inl (cI, 8, .inl h0_share_f)), (h0_gift, .inl (cI, 8, .inl h0_gift_f)), (h0_wish, .inl (cI, 8, .inl h0_wish_f)), (h0_spread, .inl (cI, 8, .inl h0_spread_f)), (h0_leakBy, .inl (cI, 13, .inl h0_leakBy_f)), (h0_joint, .inl (cI, 120, .inl h0_joint_f)), (h0_part, .inl (cI, 120, .inl h0_part_f)), (h1, .inr (3, [.int h1_lines, .int h1_laws, .int h1_sorts, .int h1_shares, .int h1_parts, .int h1_noise, .int h1_noiseTold, .ref h1_enter, .ref h1_leave, .ref h1_share, .ref h1_gift, .ref h1_wish, .ref h1_spread, .ref h1_leakBy, .ref h1_joint, .ref h1_part])), (h1_enter, .inl (cI, 6, .inl h1_enter_f)), (h1_leave, .inl (cI, 6, .inl h1_leave_f)), (h1_share, .inl (cI, 8, .inl h1_share_f)), (h1_gift, .inl (cI, 8, .inl h1_gift_f)), (h1_wish, .inl (cI, 8, .inl h1_wish_f)), (h1_spread, .inl (cI, 8, .inl h1_spread_f)), (h1_leakBy, .inl (cI, 13, .inl h1_leakBy_f)), (h1_joint, .inl (cI, 120, .inl h1_joint_f)), (h1_part, .inl (cI, 120, .inl h1_part_f))] H := hP
  have hD : va_D A [(h0, .inr (3, [.int h1_lines, .int h1_laws, .int h0_sorts, .int h0_shares, .int h0_parts, .int h0_noise, .int h0_noiseTold, .ref h0_enter, .ref h0_leave, .ref h0_share, .ref h0_gift, .ref h0_wish, .ref h0_spread, .ref h0_leakBy, .ref h0_joint, .ref h0_part])), (h0_enter, .inl (cI, 6, .inl h0_enter_f)), (h0_leave, .inl (cI, 6, .inl h0_leave_f)), (h0_share, .inl (cI, 8, .inl h0_share_f)), (h0_gift, .inl (cI, 8, .inl h0_gift_f)), (h0_wish, .inl (cI, 8, .inl h0_wish_f)), (h0_spread, .inl (cI, 8, .inl h0_spread_f)), (h0_leakBy, .inl (cI, 13, .inl h0_leakBy_f)), (h0_joint, .inl (cI, 120, .inl h0_joint_f)), (h0_part, .inl (cI, 120, .inl h0_part_f)), (h1, .inr (3, [.int h1_lines, .int h1_laws, .int h1_sorts, .int h1_shares, .int h1_parts, .int h1_noise, .int h1_noiseTold, .ref h1_enter, .ref h1_leave, .ref h1_share, .ref h1_gift, .ref h1_wish, .ref h1_spread, .ref h1_leakBy, .ref h1_joint, .ref h1_part])), (h1_enter, .inl (cI, 6, .inl h1_enter_f)), (h1_leave, .inl (cI, 6, .inl h1_leave_f)), (h1_share, .inl (cI, 8, .inl h1_share_f)), (h1_gift, .inl (cI, 8, .inl h1_gift_f)), (h1_wish, .inl (cI, 8, .inl h1_wish_f)), (h1_spread, .inl (cI, 8, .inl h1_spread_f)), (h1_leakBy, .inl (cI, 13, .inl h1_leakBy_f)), (h1_joint, .inl (cI, 120, .inl h1_joint_f)), (h1_part, .inl (cI, 120, .inl h1_part_f))] := hD
  refine lv_aload_n hx hb dX3_copyOf_16 rfl (lv_at hl 0 rfl) ?_
  refine lv_aload_n hx hb dX3_copyOf_17 rfl (lv_at hl 1 rfl) ?_
  refine va_get (D := (dC, dI)) (ci := 3) (v := .int h1_sorts) (C := RX3) (T := TX3) (N := 16) hx hb hts hi3 hown hK hP 10 rfl rfl 2 (by decide) hk2 (fun _ h9 => h9) rfl dX3_copyOf_18 ?_
  refine va_put (D := (dC, dI)) (ci := 3) (v := .int h1_sorts) (ty := .int) (C := RX3) (T := TX3) (N := 16) hx hb hts hi3 tyX3 tyX3_ok nmX3 hown hK hP hD hS 0 rfl rfl 2 (by decide) hk2 (fun _ h9 => h9) rfl (by decide +kernel) rfl rfl (Nat.le_of_ble_eq_true rfl) dX3_copyOf_21 (fun H locs hP hD hS => ?_)
  have hP : va_P (dC, dI) vwCl [(h0, .inr (3, [.int h1_lines, .int h1_laws, .int h1_sorts, .int h0_shares, .int h0_parts, .int h0_noise, .int h0_noiseTold, .ref h0_enter, .ref h0_leave, .ref h0_share, .ref h0_gift, .ref h0_wish, .ref h0_spread, .ref h0_leakBy, .ref h0_joint, .ref h0_part])), (h0_enter, .inl (cI, 6, .inl h0_enter_f)), (h0_leave, .inl (cI, 6, .inl h0_leave_f)), (h0_share, .inl (cI, 8, .inl h0_share_f)), (h0_gift, .inl (cI, 8, .inl h0_gift_f)), (h0_wish, .inl (cI, 8, .inl h0_wish_f)), (h0_spread, .inl (cI, 8, .inl h0_spread_f)), (h0_leakBy, .inl (cI, 13, .inl h0_leakBy_f)), (h0_joint, .inl (cI, 120, .inl h0_joint_f)), (h0_part, .inl (cI, 120, .inl h0_part_f)), (h1, .inr (3, [.int h1_lines, .int h1_laws, .int h1_sorts, .int h1_shares, .int h1_parts, .int h1_noise, .int h1_noiseTold, .ref h1_enter, .ref h1_leave, .ref h1_share, .ref h1_gift, .ref h1_wish, .ref h1_spread, .ref h1_leakBy, .ref h1_joint, .ref h1_part])), (h1_enter, .inl (cI, 6, .inl h1_enter_f)), (h1_leave, .inl (cI, 6, .inl h1_leave_f)), (h1_share, .inl (cI, 8, .inl h1_share_f)), (h1_gift, .inl (cI, 8, .inl h1_gift_f)), (h1_wish, .inl (cI, 8, .inl h1_wish_f)), (h1_spread, .inl (cI, 8, .inl h1_spread_f)), (h1_leakBy, .inl (cI, 13, .inl h1_leakBy_f)), (h1_joint, .inl (cI, 120, .inl h1_joint_f)), (h1_part, .inl (cI, 120, .inl h1_part_f))] H := hP
  have hD : va_D A [(h0, .inr (3, [.int h1_lines, .int h1_laws, .int h1_sorts, .int h0_shares, .int h0_parts, .int h0_noise, .int h0_noiseTold, .ref h0_enter, .ref h0_leave, .ref h0_share, .ref h0_gift, .ref h0_wish, .ref h0_spread, .ref h0_leakBy, .ref h0_joint, .ref h0_part])), (h0_enter, .inl (cI, 6, .inl h0_enter_f)), (h0_leave, .inl (cI, 6, .inl h0_leave_f)), (h0_share, .inl (cI, 8, .inl h0_share_f)), (h0_gift, .inl (cI, 8, .inl h0_gift_f)), (h0_wish, .inl (cI, 8, .inl h0_wish_f)), (h0_spread, .inl (cI, 8, .inl h0_spread_f)), (h0_leakBy, .inl (cI, 13, .inl h0_leakBy_f)), (h0_joint, .inl (cI, 120, .inl h0_joint_f)), (h0_part, .inl (cI, 120, .inl h0_part_f)), (h1, .inr (3, [.int h1_lines, .int h1_laws, .int h1_sorts, .int h1_shares, .int h1_parts, .int h1_noise, .int h1_noiseTold, .ref h1_enter, .ref h1_leave, .ref h1_share, .ref h1_gift, .ref h1_wish, .ref h1_spread, .ref h1_leakBy, .ref h1_joint, .ref h1_part])), (h1_enter, .inl (cI, 6, .inl h1_enter_f)), (h1_leave, .inl (cI, 6, .inl h1_leave_f)), (h1_share, .inl (cI, 8, .inl h1_share_f)), (h1_gift, .inl (cI, 8, .inl h1_gift_f)), (h1_wish, .inl (cI, 8, .inl h1_wish_f)), (h1_spread, .inl (cI, 8, .inl h1_spread_f)), (h1_leakBy, .inl (cI, 13, .inl h1_leakBy_f)), (h1_joint, .inl (cI, 120, .inl h1_joint_f)), (h1_part, .inl (cI, 120, .inl h1_part_f))] := hD
  refine lv_aload_n hx hb dX3_copyOf_24 rfl (lv_at hl 0 rfl) ?_
  refine lv_aload_n hx hb dX3_copyOf_25 rfl (lv_at hl 1 rfl) ?_
  refine va_get (D := (dC, dI)) (ci := 3) (v := .int h1_shares) (C := RX3) (T := TX3) (N := 16) hx hb hts hi3 hown hK hP 10 rfl rfl 3 (by decide) hk3 (fun _ h9 => h9) rfl dX3_copyOf_26 ?_
  refine va_put (D := (dC, dI)) (ci := 3) (v := .int h1_shares) (ty := .int) (C := RX3) (T := TX3) (N := 16) hx hb hts hi3 tyX3 tyX3_ok nmX3 hown hK hP hD hS 0 rfl rfl 3 (by decide) hk3 (fun _ h9 => h9) rfl (by decide +kernel) rfl rfl (Nat.le_of_ble_eq_true rfl) dX3_copyOf_29 (fun H locs hP hD hS => ?_)
  have hP : va_P (dC, dI) vwCl [(h0, .inr (3, [.int h1_lines, .int h1_laws, .int h1_sorts, .int h1_shares, .int h0_parts, .int h0_noise, .int h0_noiseTold, .ref h0_enter, .ref h0_leave, .ref h0_share, .ref h0_gift, .ref h0_wish, .ref h0_spread, .ref h0_leakBy, .ref h0_joint, .ref h0_part])), (h0_enter, .inl (cI, 6, .inl h0_enter_f)), (h0_leave, .inl (cI, 6, .inl h0_leave_f)), (h0_share, .inl (cI, 8, .inl h0_share_f)), (h0_gift, .inl (cI, 8, .inl h0_gift_f)), (h0_wish, .inl (cI, 8, .inl h0_wish_f)), (h0_spread, .inl (cI, 8, .inl h0_spread_f)), (h0_leakBy, .inl (cI, 13, .inl h0_leakBy_f)), (h0_joint, .inl (cI, 120, .inl h0_joint_f)), (h0_part, .inl (cI, 120, .inl h0_part_f)), (h1, .inr (3, [.int h1_lines, .int h1_laws, .int h1_sorts, .int h1_shares, .int h1_parts, .int h1_noise, .int h1_noiseTold, .ref h1_enter, .ref h1_leave, .ref h1_share, .ref h1_gift, .ref h1_wish, .ref h1_spread, .ref h1_leakBy, .ref h1_joint, .ref h1_part])), (h1_enter, .inl (cI, 6, .inl h1_enter_f)), (h1_leave, .inl (cI, 6, .inl h1_leave_f)), (h1_share, .inl (cI, 8, .inl h1_share_f)), (h1_gift, .inl (cI, 8, .inl h1_gift_f)), (h1_wish, .inl (cI, 8, .inl h1_wish_f)), (h1_spread, .inl (cI, 8, .inl h1_spread_f)), (h1_leakBy, .inl (cI, 13, .inl h1_leakBy_f)), (h1_joint, .inl (cI, 120, .inl h1_joint_f)), (h1_part, .inl (cI, 120, .inl h1_part_f))] H := hP
  have hD : va_D A [(h0, .inr (3, [.int h1_lines, .int h1_laws, .int h1_sorts, .int h1_shares, .int h0_parts, .int h0_noise, .int h0_noiseTold, .ref h0_enter, .ref h0_leave, .ref h0_share, .ref h0_gift, .ref h0_wish, .ref h0_spread, .ref h0_leakBy, .ref h0_joint, .ref h0_part])), (h0_enter, .inl (cI, 6, .inl h0_enter_f)), (h0_leave, .inl (cI, 6, .inl h0_leave_f)), (h0_share, .inl (cI, 8, .inl h0_share_f)), (h0_gift, .inl (cI, 8, .inl h0_gift_f)), (h0_wish, .inl (cI, 8, .inl h0_wish_f)), (h0_spread, .inl (cI, 8, .inl h0_spread_f)), (h0_leakBy, .inl (cI, 13, .inl h0_leakBy_f)), (h0_joint, .inl (cI, 120, .inl h0_joint_f)), (h0_part, .inl (cI, 120, .inl h0_part_f)), (h1, .inr (3, [.int h1_lines, .int h1_laws, .int h1_sorts, .int h1_shares, .int h1_parts, .int h1_noise, .int h1_noiseTold, .ref h1_enter, .ref h1_leave, .ref h1_share, .ref h1_gift, .ref h1_wish, .ref h1_spread, .ref h1_leakBy, .ref h1_joint, .ref h1_part])), (h1_enter, .inl (cI, 6, .inl h1_enter_f)), (h1_leave, .inl (cI, 6, .inl h1_leave_f)), (h1_share, .inl (cI, 8, .inl h1_share_f)), (h1_gift, .inl (cI, 8, .inl h1_gift_f)), (h1_wish, .inl (cI, 8, .inl h1_wish_f)), (h1_spread, .inl (cI, 8, .inl h1_spread_f)), (h1_leakBy, .inl (cI, 13, .inl h1_leakBy_f)), (h1_joint, .inl (cI, 120, .inl h1_joint_f)), (h1_part, .inl (cI, 120, .inl h1_part_f))] := hD
  refine lv_aload_n hx hb dX3_copyOf_32 rfl (lv_at hl 0 rfl) ?_
  refine lv_aload_n hx hb dX3_copyOf_33 rfl (lv_at hl 1 rfl) ?_
  refine va_get (D := (dC, dI)) (ci := 3) (v := .int h1_parts) (C := RX3) (T := TX3) (N := 16) hx hb hts hi3 hown hK hP 10 rfl rfl 4 (by decide) hk4 (fun _ h9 => h9) rfl dX3_copyOf_34 ?_
  refine va_put (D := (dC, dI)) (ci := 3) (v := .int h1_parts) (ty := .int) (C := RX3) (T := TX3) (N := 16) hx hb hts hi3 tyX3 tyX3_ok nmX3 hown hK hP hD hS 0 rfl rfl 4 (by decide) hk4 (fun _ h9 => h9) rfl (by decide +kernel) rfl rfl (Nat.le_of_ble_eq_true rfl) dX3_copyOf_37 (fun H locs hP hD hS => ?_)
  have hP : va_P (dC, dI) vwCl [(h0, .inr (3, [.int h1_lines, .int h1_laws, .int h1_sorts, .int h1_shares, .int h1_parts, .int h0_noise, .int h0_noiseTold, .ref h0_enter, .ref h0_leave, .ref h0_share, .ref h0_gift, .ref h0_wish, .ref h0_spread, .ref h0_leakBy, .ref h0_joint, .ref h0_part])), (h0_enter, .inl (cI, 6, .inl h0_enter_f)), (h0_leave, .inl (cI, 6, .inl h0_leave_f)), (h0_share, .inl (cI, 8, .inl h0_share_f)), (h0_gift, .inl (cI, 8, .inl h0_gift_f)), (h0_wish, .inl (cI, 8, .inl h0_wish_f)), (h0_spread, .inl (cI, 8, .inl h0_spread_f)), (h0_leakBy, .inl (cI, 13, .inl h0_leakBy_f)), (h0_joint, .inl (cI, 120, .inl h0_joint_f)), (h0_part, .inl (cI, 120, .inl h0_part_f)), (h1, .inr (3, [.int h1_lines, .int h1_laws, .int h1_sorts, .int h1_shares, .int h1_parts, .int h1_noise, .int h1_noiseTold, .ref h1_enter, .ref h1_leave, .ref h1_share, .ref h1_gift, .ref h1_wish, .ref h1_spread, .ref h1_leakBy, .ref h1_joint, .ref h1_part])), (h1_enter, .inl (cI, 6, .inl h1_enter_f)), (h1_leave, .inl (cI, 6, .inl h1_leave_f)), (h1_share, .inl (cI, 8, .inl h1_share_f)), (h1_gift, .inl (cI, 8, .inl h1_gift_f)), (h1_wish, .inl (cI, 8, .inl h1_wish_f)), (h1_spread, .inl (cI, 8, .inl h1_spread_f)), (h1_leakBy, .inl (cI, 13, .inl h1_leakBy_f)), (h1_joint, .inl (cI, 120, .inl h1_joint_f)), (h1_part, .inl (cI, 120, .inl h1_part_f))] H := hP
  have hD : va_D A [(h0, .inr (3, [.int h1_lines, .int h1_laws, .int h1_sorts, .int h1_shares, .int h1_parts, .int h0_noise, .int h0_noiseTold, .ref h0_enter, .ref h0_leave, .ref h0_share, .ref h0_gift, .ref h0_wish, .ref h0_spread, .ref h0_leakBy, .ref h0_joint, .ref h0_part])), (h0_enter, .inl (cI, 6, .inl h0_enter_f)), (h0_leave, .inl (cI, 6, .inl h0_leave_f)), (h0_share, .inl (cI, 8, .inl h0_share_f)), (h0_gift, .inl (cI, 8, .inl h0_gift_f)), (h0_wish, .inl (cI, 8, .inl h0_wish_f)), (h0_spread, .inl (cI, 8, .inl h0_spread_f)), (h0_leakBy, .inl (cI, 13, .inl h0_leakBy_f)), (h0_joint, .inl (cI, 120, .inl h0_joint_f)), (h0_part, .inl (cI, 120, .inl h0_part_f)), (h1, .inr (3, [.int h1_lines, .int h1_laws, .int h1_sorts, .int h1_shares, .int h1_parts, .int h1_noise, .int h1_noiseTold, .ref h1_enter, .ref h1_leave, .ref h1_share, .ref h1_gift, .ref h1_wish, .ref h1_spread, .ref h1_leakBy, .ref h1_joint, .ref h1_part])), (h1_enter, .inl (cI, 6, .inl h1_enter_f)), (h1_leave, .inl (cI, 6, .inl h1_leave_f)), (h1_share, .inl (cI, 8, .inl h1_share_f)), (h1_gift, .inl (cI, 8, .inl h1_gift_f)), (h1_wish, .inl (cI, 8, .inl h1_wish_f)), (h1_spread, .inl (cI, 8, .inl h1_spread_f)), (h1_leakBy, .inl (cI, 13, .inl h1_leakBy_f)), (h1_joint, .inl (cI, 120, .inl h1_joint_f)), (h1_part, .inl (cI, 120, .inl h1_part_f))] := hD
  refine lv_aload_n hx hb dX3_copyOf_40 rfl (lv_at hl 0 rfl) ?_
  refine lv_aload_n hx hb dX3_copyOf_41 rfl (lv_at hl 1 rfl) ?_
  refine va_get (D := (dC, dI)) (ci := 3) (v := .int h1_noise) (C := RX3) (T := TX3) (N := 16) hx hb hts hi3 hown hK hP 10 rfl rfl 5 (by decide) hk5 (fun _ h9 => h9) rfl dX3_copyOf_42 ?_
  refine va_put (D := (dC, dI)) (ci := 3) (v := .int h1_noise) (ty := .int) (C := RX3) (T := TX3) (N := 16) hx hb hts hi3 tyX3 tyX3_ok nmX3 hown hK hP hD hS 0 rfl rfl 5 (by decide) hk5 (fun _ h9 => h9) rfl (by decide +kernel) rfl rfl (Nat.le_of_ble_eq_true rfl) dX3_copyOf_45 (fun H locs hP hD hS => ?_)
  have hP : va_P (dC, dI) vwCl [(h0, .inr (3, [.int h1_lines, .int h1_laws, .int h1_sorts, .int h1_shares, .int h1_parts, .int h1_noise, .int h0_noiseTold, .ref h0_enter, .ref h0_leave, .ref h0_share, .ref h0_gift, .ref h0_wish, .ref h0_spread, .ref h0_leakBy, .ref h0_joint, .ref h0_part])), (h0_enter, .inl (cI, 6, .inl h0_enter_f)), (h0_leave, .inl (cI, 6, .inl h0_leave_f)), (h0_share, .inl (cI, 8, .inl h0_share_f)), (h0_gift, .inl (cI, 8, .inl h0_gift_f)), (h0_wish, .inl (cI, 8, .inl h0_wish_f)), (h0_spread, .inl (cI, 8, .inl h0_spread_f)), (h0_leakBy, .inl (cI, 13, .inl h0_leakBy_f)), (h0_joint, .inl (cI, 120, .inl h0_joint_f)), (h0_part, .inl (cI, 120, .inl h0_part_f)), (h1, .inr (3, [.int h1_lines, .int h1_laws, .int h1_sorts, .int h1_shares, .int h1_parts, .int h1_noise, .int h1_noiseTold, .ref h1_enter, .ref h1_leave, .ref h1_share, .ref h1_gift, .ref h1_wish, .ref h1_spread, .ref h1_leakBy, .ref h1_joint, .ref h1_part])), (h1_enter, .inl (cI, 6, .inl h1_enter_f)), (h1_leave, .inl (cI, 6, .inl h1_leave_f)), (h1_share, .inl (cI, 8, .inl h1_share_f)), (h1_gift, .inl (cI, 8, .inl h1_gift_f)), (h1_wish, .inl (cI, 8, .inl h1_wish_f)), (h1_spread, .inl (cI, 8, .inl h1_spread_f)), (h1_leakBy, .inl (cI, 13, .inl h1_leakBy_f)), (h1_joint, .inl (cI, 120, .inl h1_joint_f)), (h1_part, .inl (cI, 120, .inl h1_part_f))] H := hP
  have hD : va_D A [(h0, .inr (3, [.int h1_lines, .int h1_laws, .int h1_sorts, .int h1_shares, .int h1_parts, .int h1_noise, .int h0_noiseTold, .ref h0_enter, .ref h0_leave, .ref h0_share, .ref h0_gift, .ref h0_wish, .ref h0_spread, .ref h0_leakBy, .ref h0_joint, .ref h0_part])), (h0_enter, .inl (cI, 6, .inl h0_enter_f)), (h0_leave, .inl (cI, 6, .inl h0_leave_f)), (h0_share, .inl (cI, 8, .inl h0_share_f)), (h0_gift, .inl (cI, 8, .inl h0_gift_f)), (h0_wish, .inl (cI, 8, .inl h0_wish_f)), (h0_spread, .inl (cI, 8, .inl h0_spread_f)), (h0_leakBy, .inl (cI, 13, .inl h0_leakBy_f)), (h0_joint, .inl (cI, 120, .inl h0_joint_f)), (h0_part, .inl (cI, 120, .inl h0_part_f)), (h1, .inr (3, [.int h1_lines, .int h1_laws, .int h1_sorts, .int h1_shares, .int h1_parts, .int h1_noise, .int h1_noiseTold, .ref h1_enter, .ref h1_leave, .ref h1_share, .ref h1_gift, .ref h1_wish, .ref h1_spread, .ref h1_leakBy, .ref h1_joint, .ref h1_part])), (h1_enter, .inl (cI, 6, .inl h1_enter_f)), (h1_leave, .inl (cI, 6, .inl h1_leave_f)), (h1_share, .inl (cI, 8, .inl h1_share_f)), (h1_gift, .inl (cI, 8, .inl h1_gift_f)), (h1_wish, .inl (cI, 8, .inl h1_wish_f)), (h1_spread, .inl (cI, 8, .inl h1_spread_f)), (h1_leakBy, .inl (cI, 13, .inl h1_leakBy_f)), (h1_joint, .inl (cI, 120, .inl h1_joint_f)), (h1_part, .inl (cI, 120, .inl h1_part_f))] := hD
  refine lv_aload_n hx hb dX3_copyOf_48 rfl (lv_at hl 0 rfl) ?_
  refine lv_aload_n hx hb dX3_copyOf_49 rfl (lv_at hl 1 rfl) ?_
  refine va_get (D := (dC, dI)) (ci := 3) (v := .int h1_noiseTold) (C := RX3) (T := TX3) (N := 16) hx hb hts hi3 hown hK hP 10 rfl rfl 6 (by decide) hk6 (fun _ h9 => h9) rfl dX3_copyOf_50 ?_
  refine va_put (D := (dC, dI)) (ci := 3) (v := .int h1_noiseTold) (ty := .boolean) (C := RX3) (T := TX3) (N := 16) hx hb hts hi3 tyX3 tyX3_ok nmX3 hown hK hP hD hS 0 rfl rfl 6 (by decide) hk6 (fun _ h9 => h9) rfl (by decide +kernel) (z_narZ rfl (by omega) (by omega)) (z_fitZ rfl (by omega) (by omega)) (Nat.le_of_ble_eq_true rfl) dX3_copyOf_53 (fun H locs hP hD hS => ?_)
  have hP : va_P (dC, dI) vwCl [(h0, .inr (3, [.int h1_lines, .int h1_laws, .int h1_sorts, .int h1_shares, .int h1_parts, .int h1_noise, .int h1_noiseTold, .ref h0_enter, .ref h0_leave, .ref h0_share, .ref h0_gift, .ref h0_wish, .ref h0_spread, .ref h0_leakBy, .ref h0_joint, .ref h0_part])), (h0_enter, .inl (cI, 6, .inl h0_enter_f)), (h0_leave, .inl (cI, 6, .inl h0_leave_f)), (h0_share, .inl (cI, 8, .inl h0_share_f)), (h0_gift, .inl (cI, 8, .inl h0_gift_f)), (h0_wish, .inl (cI, 8, .inl h0_wish_f)), (h0_spread, .inl (cI, 8, .inl h0_spread_f)), (h0_leakBy, .inl (cI, 13, .inl h0_leakBy_f)), (h0_joint, .inl (cI, 120, .inl h0_joint_f)), (h0_part, .inl (cI, 120, .inl h0_part_f)), (h1, .inr (3, [.int h1_lines, .int h1_laws, .int h1_sorts, .int h1_shares, .int h1_parts, .int h1_noise, .int h1_noiseTold, .ref h1_enter, .ref h1_leave, .ref h1_share, .ref h1_gift, .ref h1_wish, .ref h1_spread, .ref h1_leakBy, .ref h1_joint, .ref h1_part])), (h1_enter, .inl (cI, 6, .inl h1_enter_f)), (h1_leave, .inl (cI, 6, .inl h1_leave_f)), (h1_share, .inl (cI, 8, .inl h1_share_f)), (h1_gift, .inl (cI, 8, .inl h1_gift_f)), (h1_wish, .inl (cI, 8, .inl h1_wish_f)), (h1_spread, .inl (cI, 8, .inl h1_spread_f)), (h1_leakBy, .inl (cI, 13, .inl h1_leakBy_f)), (h1_joint, .inl (cI, 120, .inl h1_joint_f)), (h1_part, .inl (cI, 120, .inl h1_part_f))] H := hP
  have hD : va_D A [(h0, .inr (3, [.int h1_lines, .int h1_laws, .int h1_sorts, .int h1_shares, .int h1_parts, .int h1_noise, .int h1_noiseTold, .ref h0_enter, .ref h0_leave, .ref h0_share, .ref h0_gift, .ref h0_wish, .ref h0_spread, .ref h0_leakBy, .ref h0_joint, .ref h0_part])), (h0_enter, .inl (cI, 6, .inl h0_enter_f)), (h0_leave, .inl (cI, 6, .inl h0_leave_f)), (h0_share, .inl (cI, 8, .inl h0_share_f)), (h0_gift, .inl (cI, 8, .inl h0_gift_f)), (h0_wish, .inl (cI, 8, .inl h0_wish_f)), (h0_spread, .inl (cI, 8, .inl h0_spread_f)), (h0_leakBy, .inl (cI, 13, .inl h0_leakBy_f)), (h0_joint, .inl (cI, 120, .inl h0_joint_f)), (h0_part, .inl (cI, 120, .inl h0_part_f)), (h1, .inr (3, [.int h1_lines, .int h1_laws, .int h1_sorts, .int h1_shares, .int h1_parts, .int h1_noise, .int h1_noiseTold, .ref h1_enter, .ref h1_leave, .ref h1_share, .ref h1_gift, .ref h1_wish, .ref h1_spread, .ref h1_leakBy, .ref h1_joint, .ref h1_part])), (h1_enter, .inl (cI, 6, .inl h1_enter_f)), (h1_leave, .inl (cI, 6, .inl h1_leave_f)), (h1_share, .inl (cI, 8, .inl h1_share_f)), (h1_gift, .inl (cI, 8, .inl h1_gift_f)), (h1_wish, .inl (cI, 8, .inl h1_wish_f)), (h1_spread, .inl (cI, 8, .inl h1_spread_f)), (h1_leakBy, .inl (cI, 13, .inl h1_leakBy_f)), (h1_joint, .inl (cI, 120, .inl h1_joint_f)), (h1_part, .inl (cI, 120, .inl h1_part_f))] := hD
  refine lv_aload_n hx hb dX3_copyOf_56 rfl (lv_at hl 1 rfl) ?_
  refine va_get (D := (dC, dI)) (ci := 3) (v := .ref h1_enter) (C := RX3) (T := TX3) (N := 16) hx hb hts hi3 hown hK hP 10 rfl rfl 7 (by decide) hk7 (fun _ h9 => h9) rfl dX3_copyOf_57 ?_
  refine lv_iconst (v := 0) hx hb dX3_copyOf_60 (by decide) ?_
  refine lv_aload_n hx hb dX3_copyOf_61 rfl (lv_at hl 0 rfl) ?_
  refine va_get (D := (dC, dI)) (ci := 3) (v := .ref h0_enter) (C := RX3) (T := TX3) (N := 16) hx hb hts hi3 hown hK hP 0 rfl rfl 7 (by decide) hk7 (fun _ h9 => h9) rfl dX3_copyOf_62 ?_
  refine lv_iconst (v := 0) hx hb dX3_copyOf_65 (by decide) ?_
  refine lv_bipush (v := 6) hx hb dX3_copyOf_66 (by decide) ?_
  refine y_copyi hx hb (by rw [hml]; exact hl.1.symm) hown hk8 hk9 hk10 hk11 hK hP hD hS 11 1 1 1 rfl rfl rfl rfl rfl (by decide) (by decide) (by decide) (z_fit2 (by decide) (by decide) (by omega) (by omega) (by omega)) (z_fit2 (by decide) (by decide) (by omega) (by omega) (by omega)) (fun _ _ => rfl) (Nat.le_of_ble_eq_true rfl) (Nat.le_of_ble_eq_true rfl) dX3_copyOf_68 (fun H locs g1 h2 hP hD hS => ?_)
  have hP : va_P (dC, dI) vwCl [(h0, .inr (3, [.int h1_lines, .int h1_laws, .int h1_sorts, .int h1_shares, .int h1_parts, .int h1_noise, .int h1_noiseTold, .ref h0_enter, .ref h0_leave, .ref h0_share, .ref h0_gift, .ref h0_wish, .ref h0_spread, .ref h0_leakBy, .ref h0_joint, .ref h0_part])), (h0_enter, .inl (cI, 6, .inl g1)), (h0_leave, .inl (cI, 6, .inl h0_leave_f)), (h0_share, .inl (cI, 8, .inl h0_share_f)), (h0_gift, .inl (cI, 8, .inl h0_gift_f)), (h0_wish, .inl (cI, 8, .inl h0_wish_f)), (h0_spread, .inl (cI, 8, .inl h0_spread_f)), (h0_leakBy, .inl (cI, 13, .inl h0_leakBy_f)), (h0_joint, .inl (cI, 120, .inl h0_joint_f)), (h0_part, .inl (cI, 120, .inl h0_part_f)), (h1, .inr (3, [.int h1_lines, .int h1_laws, .int h1_sorts, .int h1_shares, .int h1_parts, .int h1_noise, .int h1_noiseTold, .ref h1_enter, .ref h1_leave, .ref h1_share, .ref h1_gift, .ref h1_wish, .ref h1_spread, .ref h1_leakBy, .ref h1_joint, .ref h1_part])), (h1_enter, .inl (cI, 6, .inl h1_enter_f)), (h1_leave, .inl (cI, 6, .inl h1_leave_f)), (h1_share, .inl (cI, 8, .inl h1_share_f)), (h1_gift, .inl (cI, 8, .inl h1_gift_f)), (h1_wish, .inl (cI, 8, .inl h1_wish_f)), (h1_spread, .inl (cI, 8, .inl h1_spread_f)), (h1_leakBy, .inl (cI, 13, .inl h1_leakBy_f)), (h1_joint, .inl (cI, 120, .inl h1_joint_f)), (h1_part, .inl (cI, 120, .inl h1_part_f))] H := hP
  have hD : va_D A [(h0, .inr (3, [.int h1_lines, .int h1_laws, .int h1_sorts, .int h1_shares, .int h1_parts, .int h1_noise, .int h1_noiseTold, .ref h0_enter, .ref h0_leave, .ref h0_share, .ref h0_gift, .ref h0_wish, .ref h0_spread, .ref h0_leakBy, .ref h0_joint, .ref h0_part])), (h0_enter, .inl (cI, 6, .inl g1)), (h0_leave, .inl (cI, 6, .inl h0_leave_f)), (h0_share, .inl (cI, 8, .inl h0_share_f)), (h0_gift, .inl (cI, 8, .inl h0_gift_f)), (h0_wish, .inl (cI, 8, .inl h0_wish_f)), (h0_spread, .inl (cI, 8, .inl h0_spread_f)), (h0_leakBy, .inl (cI, 13, .inl h0_leakBy_f)), (h0_joint, .inl (cI, 120, .inl h0_joint_f)), (h0_part, .inl (cI, 120, .inl h0_part_f)), (h1, .inr (3, [.int h1_lines, .int h1_laws, .int h1_sorts, .int h1_shares, .int h1_parts, .int h1_noise, .int h1_noiseTold, .ref h1_enter, .ref h1_leave, .ref h1_share, .ref h1_gift, .ref h1_wish, .ref h1_spread, .ref h1_leakBy, .ref h1_joint, .ref h1_part])), (h1_enter, .inl (cI, 6, .inl h1_enter_f)), (h1_leave, .inl (cI, 6, .inl h1_leave_f)), (h1_share, .inl (cI, 8, .inl h1_share_f)), (h1_gift, .inl (cI, 8, .inl h1_gift_f)), (h1_wish, .inl (cI, 8, .inl h1_wish_f)), (h1_spread, .inl (cI, 8, .inl h1_spread_f)), (h1_leakBy, .inl (cI, 13, .inl h1_leakBy_f)), (h1_joint, .inl (cI, 120, .inl h1_joint_f)), (h1_part, .inl (cI, 120, .inl h1_part_f))] := hD
  refine lv_aload_n hx hb dX3_copyOf_71 rfl (lv_at hl 1 rfl) ?_
  refine va_get (D := (dC, dI)) (ci := 3) (v := .ref h1_leave) (C := RX3) (T := TX3) (N := 16) hx hb hts hi3 hown hK hP 10 rfl rfl 8 (by decide) hk12 (fun _ h9 => h9) rfl dX3_copyOf_72 ?_
  refine lv_iconst (v := 0) hx hb dX3_copyOf_75 (by decide) ?_
  refine lv_aload_n hx hb dX3_copyOf_76 rfl (lv_at hl 0 rfl) ?_
  refine va_get (D := (dC, dI)) (ci := 3) (v := .ref h0_leave) (C := RX3) (T := TX3) (N := 16) hx hb hts hi3 hown hK hP 0 rfl rfl 8 (by decide) hk12 (fun _ h9 => h9) rfl dX3_copyOf_77 ?_
  refine lv_iconst (v := 0) hx hb dX3_copyOf_80 (by decide) ?_
  refine lv_bipush (v := 6) hx hb dX3_copyOf_81 (by decide) ?_
  refine y_copyi hx hb (by rw [hml]; exact hl.1.symm) hown hk8 hk9 hk10 hk11 hK hP hD hS 12 2 1 1 rfl rfl rfl rfl rfl (by decide) (by decide) (by decide) (z_fit2 (by decide) (by decide) (by omega) (by omega) (by omega)) (z_fit2 (by decide) (by decide) (by omega) (by omega) (by omega)) (fun _ _ => rfl) (Nat.le_of_ble_eq_true rfl) (Nat.le_of_ble_eq_true rfl) dX3_copyOf_83 (fun H locs g3 h4 hP hD hS => ?_)
  have hP : va_P (dC, dI) vwCl [(h0, .inr (3, [.int h1_lines, .int h1_laws, .int h1_sorts, .int h1_shares, .int h1_parts, .int h1_noise, .int h1_noiseTold, .ref h0_enter, .ref h0_leave, .ref h0_share, .ref h0_gift, .ref h0_wish, .ref h0_spread, .ref h0_leakBy, .ref h0_joint, .ref h0_part])), (h0_enter, .inl (cI, 6, .inl g1)), (h0_leave, .inl (cI, 6, .inl g3)), (h0_share, .inl (cI, 8, .inl h0_share_f)), (h0_gift, .inl (cI, 8, .inl h0_gift_f)), (h0_wish, .inl (cI, 8, .inl h0_wish_f)), (h0_spread, .inl (cI, 8, .inl h0_spread_f)), (h0_leakBy, .inl (cI, 13, .inl h0_leakBy_f)), (h0_joint, .inl (cI, 120, .inl h0_joint_f)), (h0_part, .inl (cI, 120, .inl h0_part_f)), (h1, .inr (3, [.int h1_lines, .int h1_laws, .int h1_sorts, .int h1_shares, .int h1_parts, .int h1_noise, .int h1_noiseTold, .ref h1_enter, .ref h1_leave, .ref h1_share, .ref h1_gift, .ref h1_wish, .ref h1_spread, .ref h1_leakBy, .ref h1_joint, .ref h1_part])), (h1_enter, .inl (cI, 6, .inl h1_enter_f)), (h1_leave, .inl (cI, 6, .inl h1_leave_f)), (h1_share, .inl (cI, 8, .inl h1_share_f)), (h1_gift, .inl (cI, 8, .inl h1_gift_f)), (h1_wish, .inl (cI, 8, .inl h1_wish_f)), (h1_spread, .inl (cI, 8, .inl h1_spread_f)), (h1_leakBy, .inl (cI, 13, .inl h1_leakBy_f)), (h1_joint, .inl (cI, 120, .inl h1_joint_f)), (h1_part, .inl (cI, 120, .inl h1_part_f))] H := hP
  have hD : va_D A [(h0, .inr (3, [.int h1_lines, .int h1_laws, .int h1_sorts, .int h1_shares, .int h1_parts, .int h1_noise, .int h1_noiseTold, .ref h0_enter, .ref h0_leave, .ref h0_share, .ref h0_gift, .ref h0_wish, .ref h0_spread, .ref h0_leakBy, .ref h0_joint, .ref h0_part])), (h0_enter, .inl (cI, 6, .inl g1)), (h0_leave, .inl (cI, 6, .inl g3)), (h0_share, .inl (cI, 8, .inl h0_share_f)), (h0_gift, .inl (cI, 8, .inl h0_gift_f)), (h0_wish, .inl (cI, 8, .inl h0_wish_f)), (h0_spread, .inl (cI, 8, .inl h0_spread_f)), (h0_leakBy, .inl (cI, 13, .inl h0_leakBy_f)), (h0_joint, .inl (cI, 120, .inl h0_joint_f)), (h0_part, .inl (cI, 120, .inl h0_part_f)), (h1, .inr (3, [.int h1_lines, .int h1_laws, .int h1_sorts, .int h1_shares, .int h1_parts, .int h1_noise, .int h1_noiseTold, .ref h1_enter, .ref h1_leave, .ref h1_share, .ref h1_gift, .ref h1_wish, .ref h1_spread, .ref h1_leakBy, .ref h1_joint, .ref h1_part])), (h1_enter, .inl (cI, 6, .inl h1_enter_f)), (h1_leave, .inl (cI, 6, .inl h1_leave_f)), (h1_share, .inl (cI, 8, .inl h1_share_f)), (h1_gift, .inl (cI, 8, .inl h1_gift_f)), (h1_wish, .inl (cI, 8, .inl h1_wish_f)), (h1_spread, .inl (cI, 8, .inl h1_spread_f)), (h1_leakBy, .inl (cI, 13, .inl h1_leakBy_f)), (h1_joint, .inl (cI, 120, .inl h1_joint_f)), (h1_part, .inl (cI, 120, .inl h1_part_f))] := hD
  refine lv_aload_n hx hb dX3_copyOf_86 rfl (lv_at hl 1 rfl) ?_
  refine va_get (D := (dC, dI)) (ci := 3) (v := .ref h1_share) (C := RX3) (T := TX3) (N := 16) hx hb hts hi3 hown hK hP 10 rfl rfl 9 (by decide) hk13 (fun _ h9 => h9) rfl dX3_copyOf_87 ?_
  refine lv_iconst (v := 0) hx hb dX3_copyOf_90 (by decide) ?_
  refine lv_aload_n hx hb dX3_copyOf_91 rfl (lv_at hl 0 rfl) ?_
  refine va_get (D := (dC, dI)) (ci := 3) (v := .ref h0_share) (C := RX3) (T := TX3) (N := 16) hx hb hts hi3 hown hK hP 0 rfl rfl 9 (by decide) hk13 (fun _ h9 => h9) rfl dX3_copyOf_92 ?_
  refine lv_iconst (v := 0) hx hb dX3_copyOf_95 (by decide) ?_
  refine lv_bipush (v := 8) hx hb dX3_copyOf_96 (by decide) ?_
  refine y_copyi hx hb (by rw [hml]; exact hl.1.symm) hown hk8 hk9 hk10 hk11 hK hP hD hS 13 3 1 1 rfl rfl rfl rfl rfl (by decide) (by decide) (by decide) (z_fit2 (by decide) (by decide) (by omega) (by omega) (by omega)) (z_fit2 (by decide) (by decide) (by omega) (by omega) (by omega)) (fun _ _ => rfl) (Nat.le_of_ble_eq_true rfl) (Nat.le_of_ble_eq_true rfl) dX3_copyOf_98 (fun H locs g5 h6 hP hD hS => ?_)
  have hP : va_P (dC, dI) vwCl [(h0, .inr (3, [.int h1_lines, .int h1_laws, .int h1_sorts, .int h1_shares, .int h1_parts, .int h1_noise, .int h1_noiseTold, .ref h0_enter, .ref h0_leave, .ref h0_share, .ref h0_gift, .ref h0_wish, .ref h0_spread, .ref h0_leakBy, .ref h0_joint, .ref h0_part])), (h0_enter, .inl (cI, 6, .inl g1)), (h0_leave, .inl (cI, 6, .inl g3)), (h0_share, .inl (cI, 8, .inl g5)), (h0_gift, .inl (cI, 8, .inl h0_gift_f)), (h0_wish, .inl (cI, 8, .inl h0_wish_f)), (h0_spread, .inl (cI, 8, .inl h0_spread_f)), (h0_leakBy, .inl (cI, 13, .inl h0_leakBy_f)), (h0_joint, .inl (cI, 120, .inl h0_joint_f)), (h0_part, .inl (cI, 120, .inl h0_part_f)), (h1, .inr (3, [.int h1_lines, .int h1_laws, .int h1_sorts, .int h1_shares, .int h1_parts, .int h1_noise, .int h1_noiseTold, .ref h1_enter, .ref h1_leave, .ref h1_share, .ref h1_gift, .ref h1_wish, .ref h1_spread, .ref h1_leakBy, .ref h1_joint, .ref h1_part])), (h1_enter, .inl (cI, 6, .inl h1_enter_f)), (h1_leave, .inl (cI, 6, .inl h1_leave_f)), (h1_share, .inl (cI, 8, .inl h1_share_f)), (h1_gift, .inl (cI, 8, .inl h1_gift_f)), (h1_wish, .inl (cI, 8, .inl h1_wish_f)), (h1_spread, .inl (cI, 8, .inl h1_spread_f)), (h1_leakBy, .inl (cI, 13, .inl h1_leakBy_f)), (h1_joint, .inl (cI, 120, .inl h1_joint_f)), (h1_part, .inl (cI, 120, .inl h1_part_f))] H := hP
  have hD : va_D A [(h0, .inr (3, [.int h1_lines, .int h1_laws, .int h1_sorts, .int h1_shares, .int h1_parts, .int h1_noise, .int h1_noiseTold, .ref h0_enter, .ref h0_leave, .ref h0_share, .ref h0_gift, .ref h0_wish, .ref h0_spread, .ref h0_leakBy, .ref h0_joint, .ref h0_part])), (h0_enter, .inl (cI, 6, .inl g1)), (h0_leave, .inl (cI, 6, .inl g3)), (h0_share, .inl (cI, 8, .inl g5)), (h0_gift, .inl (cI, 8, .inl h0_gift_f)), (h0_wish, .inl (cI, 8, .inl h0_wish_f)), (h0_spread, .inl (cI, 8, .inl h0_spread_f)), (h0_leakBy, .inl (cI, 13, .inl h0_leakBy_f)), (h0_joint, .inl (cI, 120, .inl h0_joint_f)), (h0_part, .inl (cI, 120, .inl h0_part_f)), (h1, .inr (3, [.int h1_lines, .int h1_laws, .int h1_sorts, .int h1_shares, .int h1_parts, .int h1_noise, .int h1_noiseTold, .ref h1_enter, .ref h1_leave, .ref h1_share, .ref h1_gift, .ref h1_wish, .ref h1_spread, .ref h1_leakBy, .ref h1_joint, .ref h1_part])), (h1_enter, .inl (cI, 6, .inl h1_enter_f)), (h1_leave, .inl (cI, 6, .inl h1_leave_f)), (h1_share, .inl (cI, 8, .inl h1_share_f)), (h1_gift, .inl (cI, 8, .inl h1_gift_f)), (h1_wish, .inl (cI, 8, .inl h1_wish_f)), (h1_spread, .inl (cI, 8, .inl h1_spread_f)), (h1_leakBy, .inl (cI, 13, .inl h1_leakBy_f)), (h1_joint, .inl (cI, 120, .inl h1_joint_f)), (h1_part, .inl (cI, 120, .inl h1_part_f))] := hD
  refine lv_aload_n hx hb dX3_copyOf_101 rfl (lv_at hl 1 rfl) ?_
  refine va_get (D := (dC, dI)) (ci := 3) (v := .ref h1_gift) (C := RX3) (T := TX3) (N := 16) hx hb hts hi3 hown hK hP 10 rfl rfl 10 (by decide) hk14 (fun _ h9 => h9) rfl dX3_copyOf_102 ?_
  refine lv_iconst (v := 0) hx hb dX3_copyOf_105 (by decide) ?_
  refine lv_aload_n hx hb dX3_copyOf_106 rfl (lv_at hl 0 rfl) ?_
  refine va_get (D := (dC, dI)) (ci := 3) (v := .ref h0_gift) (C := RX3) (T := TX3) (N := 16) hx hb hts hi3 hown hK hP 0 rfl rfl 10 (by decide) hk14 (fun _ h9 => h9) rfl dX3_copyOf_107 ?_
  refine lv_iconst (v := 0) hx hb dX3_copyOf_110 (by decide) ?_
  refine lv_bipush (v := 8) hx hb dX3_copyOf_111 (by decide) ?_
  refine y_copyi hx hb (by rw [hml]; exact hl.1.symm) hown hk8 hk9 hk10 hk11 hK hP hD hS 14 4 1 1 rfl rfl rfl rfl rfl (by decide) (by decide) (by decide) (z_fit2 (by decide) (by decide) (by omega) (by omega) (by omega)) (z_fit2 (by decide) (by decide) (by omega) (by omega) (by omega)) (fun _ _ => rfl) (Nat.le_of_ble_eq_true rfl) (Nat.le_of_ble_eq_true rfl) dX3_copyOf_113 (fun H locs g7 h8 hP hD hS => ?_)
  have hP : va_P (dC, dI) vwCl [(h0, .inr (3, [.int h1_lines, .int h1_laws, .int h1_sorts, .int h1_shares, .int h1_parts, .int h1_noise, .int h1_noiseTold, .ref h0_enter, .ref h0_leave, .ref h0_share, .ref h0_gift, .ref h0_wish, .ref h0_spread, .ref h0_leakBy, .ref h0_joint, .ref h0_part])), (h0_enter, .inl (cI, 6, .inl g1)), (h0_leave, .inl (cI, 6, .inl g3)), (h0_share, .inl (cI, 8, .inl g5)), (h0_gift, .inl (cI, 8, .inl g7)), (h0_wish, .inl (cI, 8, .inl h0_wish_f)), (h0_spread, .inl (cI, 8, .inl h0_spread_f)), (h0_leakBy, .inl (cI, 13, .inl h0_leakBy_f)), (h0_joint, .inl (cI, 120, .inl h0_joint_f)), (h0_part, .inl (cI, 120, .inl h0_part_f)), (h1, .inr (3, [.int h1_lines, .int h1_laws, .int h1_sorts, .int h1_shares, .int h1_parts, .int h1_noise, .int h1_noiseTold, .ref h1_enter, .ref h1_leave, .ref h1_share, .ref h1_gift, .ref h1_wish, .ref h1_spread, .ref h1_leakBy, .ref h1_joint, .ref h1_part])), (h1_enter, .inl (cI, 6, .inl h1_enter_f)), (h1_leave, .inl (cI, 6, .inl h1_leave_f)), (h1_share, .inl (cI, 8, .inl h1_share_f)), (h1_gift, .inl (cI, 8, .inl h1_gift_f)), (h1_wish, .inl (cI, 8, .inl h1_wish_f)), (h1_spread, .inl (cI, 8, .inl h1_spread_f)), (h1_leakBy, .inl (cI, 13, .inl h1_leakBy_f)), (h1_joint, .inl (cI, 120, .inl h1_joint_f)), (h1_part, .inl (cI, 120, .inl h1_part_f))] H := hP
  have hD : va_D A [(h0, .inr (3, [.int h1_lines, .int h1_laws, .int h1_sorts, .int h1_shares, .int h1_parts, .int h1_noise, .int h1_noiseTold, .ref h0_enter, .ref h0_leave, .ref h0_share, .ref h0_gift, .ref h0_wish, .ref h0_spread, .ref h0_leakBy, .ref h0_joint, .ref h0_part])), (h0_enter, .inl (cI, 6, .inl g1)), (h0_leave, .inl (cI, 6, .inl g3)), (h0_share, .inl (cI, 8, .inl g5)), (h0_gift, .inl (cI, 8, .inl g7)), (h0_wish, .inl (cI, 8, .inl h0_wish_f)), (h0_spread, .inl (cI, 8, .inl h0_spread_f)), (h0_leakBy, .inl (cI, 13, .inl h0_leakBy_f)), (h0_joint, .inl (cI, 120, .inl h0_joint_f)), (h0_part, .inl (cI, 120, .inl h0_part_f)), (h1, .inr (3, [.int h1_lines, .int h1_laws, .int h1_sorts, .int h1_shares, .int h1_parts, .int h1_noise, .int h1_noiseTold, .ref h1_enter, .ref h1_leave, .ref h1_share, .ref h1_gift, .ref h1_wish, .ref h1_spread, .ref h1_leakBy, .ref h1_joint, .ref h1_part])), (h1_enter, .inl (cI, 6, .inl h1_enter_f)), (h1_leave, .inl (cI, 6, .inl h1_leave_f)), (h1_share, .inl (cI, 8, .inl h1_share_f)), (h1_gift, .inl (cI, 8, .inl h1_gift_f)), (h1_wish, .inl (cI, 8, .inl h1_wish_f)), (h1_spread, .inl (cI, 8, .inl h1_spread_f)), (h1_leakBy, .inl (cI, 13, .inl h1_leakBy_f)), (h1_joint, .inl (cI, 120, .inl h1_joint_f)), (h1_part, .inl (cI, 120, .inl h1_part_f))] := hD
  refine lv_aload_n hx hb dX3_copyOf_116 rfl (lv_at hl 1 rfl) ?_
  refine va_get (D := (dC, dI)) (ci := 3) (v := .ref h1_wish) (C := RX3) (T := TX3) (N := 16) hx hb hts hi3 hown hK hP 10 rfl rfl 11 (by decide) hk15 (fun _ h9 => h9) rfl dX3_copyOf_117 ?_
  refine lv_iconst (v := 0) hx hb dX3_copyOf_120 (by decide) ?_
  refine lv_aload_n hx hb dX3_copyOf_121 rfl (lv_at hl 0 rfl) ?_
  refine va_get (D := (dC, dI)) (ci := 3) (v := .ref h0_wish) (C := RX3) (T := TX3) (N := 16) hx hb hts hi3 hown hK hP 0 rfl rfl 11 (by decide) hk15 (fun _ h9 => h9) rfl dX3_copyOf_122 ?_
  refine lv_iconst (v := 0) hx hb dX3_copyOf_125 (by decide) ?_
  refine lv_bipush (v := 8) hx hb dX3_copyOf_126 (by decide) ?_
  refine y_copyi hx hb (by rw [hml]; exact hl.1.symm) hown hk8 hk9 hk10 hk11 hK hP hD hS 15 5 1 1 rfl rfl rfl rfl rfl (by decide) (by decide) (by decide) (z_fit2 (by decide) (by decide) (by omega) (by omega) (by omega)) (z_fit2 (by decide) (by decide) (by omega) (by omega) (by omega)) (fun _ _ => rfl) (Nat.le_of_ble_eq_true rfl) (Nat.le_of_ble_eq_true rfl) dX3_copyOf_128 (fun H locs g9 h10 hP hD hS => ?_)
  have hP : va_P (dC, dI) vwCl [(h0, .inr (3, [.int h1_lines, .int h1_laws, .int h1_sorts, .int h1_shares, .int h1_parts, .int h1_noise, .int h1_noiseTold, .ref h0_enter, .ref h0_leave, .ref h0_share, .ref h0_gift, .ref h0_wish, .ref h0_spread, .ref h0_leakBy, .ref h0_joint, .ref h0_part])), (h0_enter, .inl (cI, 6, .inl g1)), (h0_leave, .inl (cI, 6, .inl g3)), (h0_share, .inl (cI, 8, .inl g5)), (h0_gift, .inl (cI, 8, .inl g7)), (h0_wish, .inl (cI, 8, .inl g9)), (h0_spread, .inl (cI, 8, .inl h0_spread_f)), (h0_leakBy, .inl (cI, 13, .inl h0_leakBy_f)), (h0_joint, .inl (cI, 120, .inl h0_joint_f)), (h0_part, .inl (cI, 120, .inl h0_part_f)), (h1, .inr (3, [.int h1_lines, .int h1_laws, .int h1_sorts, .int h1_shares, .int h1_parts, .int h1_noise, .int h1_noiseTold, .ref h1_enter, .ref h1_leave, .ref h1_share, .ref h1_gift, .ref h1_wish, .ref h1_spread, .ref h1_leakBy, .ref h1_joint, .ref h1_part])), (h1_enter, .inl (cI, 6, .inl h1_enter_f)), (h1_leave, .inl (cI, 6, .inl h1_leave_f)), (h1_share, .inl (cI, 8, .inl h1_share_f)), (h1_gift, .inl (cI, 8, .inl h1_gift_f)), (h1_wish, .inl (cI, 8, .inl h1_wish_f)), (h1_spread, .inl (cI, 8, .inl h1_spread_f)), (h1_leakBy, .inl (cI, 13, .inl h1_leakBy_f)), (h1_joint, .inl (cI, 120, .inl h1_joint_f)), (h1_part, .inl (cI, 120, .inl h1_part_f))] H := hP
  have hD : va_D A [(h0, .inr (3, [.int h1_lines, .int h1_laws, .int h1_sorts, .int h1_shares, .int h1_parts, .int h1_noise, .int h1_noiseTold, .ref h0_enter, .ref h0_leave, .ref h0_share, .ref h0_gift, .ref h0_wish, .ref h0_spread, .ref h0_leakBy, .ref h0_joint, .ref h0_part])), (h0_enter, .inl (cI, 6, .inl g1)), (h0_leave, .inl (cI, 6, .inl g3)), (h0_share, .inl (cI, 8, .inl g5)), (h0_gift, .inl (cI, 8, .inl g7)), (h0_wish, .inl (cI, 8, .inl g9)), (h0_spread, .inl (cI, 8, .inl h0_spread_f)), (h0_leakBy, .inl (cI, 13, .inl h0_leakBy_f)), (h0_joint, .inl (cI, 120, .inl h0_joint_f)), (h0_part, .inl (cI, 120, .inl h0_part_f)), (h1, .inr (3, [.int h1_lines, .int h1_laws, .int h1_sorts, .int h1_shares, .int h1_parts, .int h1_noise, .int h1_noiseTold, .ref h1_enter, .ref h1_leave, .ref h1_share, .ref h1_gift, .ref h1_wish, .ref h1_spread, .ref h1_leakBy, .ref h1_joint, .ref h1_part])), (h1_enter, .inl (cI, 6, .inl h1_enter_f)), (h1_leave, .inl (cI, 6, .inl h1_leave_f)), (h1_share, .inl (cI, 8, .inl h1_share_f)), (h1_gift, .inl (cI, 8, .inl h1_gift_f)), (h1_wish, .inl (cI, 8, .inl h1_wish_f)), (h1_spread, .inl (cI, 8, .inl h1_spread_f)), (h1_leakBy, .inl (cI, 13, .inl h1_leakBy_f)), (h1_joint, .inl (cI, 120, .inl h1_joint_f)), (h1_part, .inl (cI, 120, .inl h1_part_f))] := hD
  have z11 : zR 0 240 g9 := zR_cpy h10 z_h1_wish z_h0_wish
  refine lv_aload_n hx hb dX3_copyOf_131 rfl (lv_at hl 1 rfl) ?_
  refine va_get (D := (dC, dI)) (ci := 3) (v := .ref h1_spread) (C := RX3) (T := TX3) (N := 16) hx hb hts hi3 hown hK hP 10 rfl rfl 12 (by decide) hk16 (fun _ h9 => h9) rfl dX3_copyOf_132 ?_
  refine lv_iconst (v := 0) hx hb dX3_copyOf_135 (by decide) ?_
  refine lv_aload_n hx hb dX3_copyOf_136 rfl (lv_at hl 0 rfl) ?_
  refine va_get (D := (dC, dI)) (ci := 3) (v := .ref h0_spread) (C := RX3) (T := TX3) (N := 16) hx hb hts hi3 hown hK hP 0 rfl rfl 12 (by decide) hk16 (fun _ h9 => h9) rfl dX3_copyOf_137 ?_
  refine lv_iconst (v := 0) hx hb dX3_copyOf_140 (by decide) ?_
  refine lv_bipush (v := 8) hx hb dX3_copyOf_141 (by decide) ?_
  refine y_copyi hx hb (by rw [hml]; exact hl.1.symm) hown hk8 hk9 hk10 hk11 hK hP hD hS 16 6 1 1 rfl rfl rfl rfl rfl (by decide) (by decide) (by decide) (z_fit2 (by decide) (by decide) (by omega) (by omega) (by omega)) (z_fit2 (by decide) (by decide) (by omega) (by omega) (by omega)) (fun _ _ => rfl) (Nat.le_of_ble_eq_true rfl) (Nat.le_of_ble_eq_true rfl) dX3_copyOf_143 (fun H locs g12 h13 hP hD hS => ?_)
  have hP : va_P (dC, dI) vwCl [(h0, .inr (3, [.int h1_lines, .int h1_laws, .int h1_sorts, .int h1_shares, .int h1_parts, .int h1_noise, .int h1_noiseTold, .ref h0_enter, .ref h0_leave, .ref h0_share, .ref h0_gift, .ref h0_wish, .ref h0_spread, .ref h0_leakBy, .ref h0_joint, .ref h0_part])), (h0_enter, .inl (cI, 6, .inl g1)), (h0_leave, .inl (cI, 6, .inl g3)), (h0_share, .inl (cI, 8, .inl g5)), (h0_gift, .inl (cI, 8, .inl g7)), (h0_wish, .inl (cI, 8, .inl g9)), (h0_spread, .inl (cI, 8, .inl g12)), (h0_leakBy, .inl (cI, 13, .inl h0_leakBy_f)), (h0_joint, .inl (cI, 120, .inl h0_joint_f)), (h0_part, .inl (cI, 120, .inl h0_part_f)), (h1, .inr (3, [.int h1_lines, .int h1_laws, .int h1_sorts, .int h1_shares, .int h1_parts, .int h1_noise, .int h1_noiseTold, .ref h1_enter, .ref h1_leave, .ref h1_share, .ref h1_gift, .ref h1_wish, .ref h1_spread, .ref h1_leakBy, .ref h1_joint, .ref h1_part])), (h1_enter, .inl (cI, 6, .inl h1_enter_f)), (h1_leave, .inl (cI, 6, .inl h1_leave_f)), (h1_share, .inl (cI, 8, .inl h1_share_f)), (h1_gift, .inl (cI, 8, .inl h1_gift_f)), (h1_wish, .inl (cI, 8, .inl h1_wish_f)), (h1_spread, .inl (cI, 8, .inl h1_spread_f)), (h1_leakBy, .inl (cI, 13, .inl h1_leakBy_f)), (h1_joint, .inl (cI, 120, .inl h1_joint_f)), (h1_part, .inl (cI, 120, .inl h1_part_f))] H := hP
  have hD : va_D A [(h0, .inr (3, [.int h1_lines, .int h1_laws, .int h1_sorts, .int h1_shares, .int h1_parts, .int h1_noise, .int h1_noiseTold, .ref h0_enter, .ref h0_leave, .ref h0_share, .ref h0_gift, .ref h0_wish, .ref h0_spread, .ref h0_leakBy, .ref h0_joint, .ref h0_part])), (h0_enter, .inl (cI, 6, .inl g1)), (h0_leave, .inl (cI, 6, .inl g3)), (h0_share, .inl (cI, 8, .inl g5)), (h0_gift, .inl (cI, 8, .inl g7)), (h0_wish, .inl (cI, 8, .inl g9)), (h0_spread, .inl (cI, 8, .inl g12)), (h0_leakBy, .inl (cI, 13, .inl h0_leakBy_f)), (h0_joint, .inl (cI, 120, .inl h0_joint_f)), (h0_part, .inl (cI, 120, .inl h0_part_f)), (h1, .inr (3, [.int h1_lines, .int h1_laws, .int h1_sorts, .int h1_shares, .int h1_parts, .int h1_noise, .int h1_noiseTold, .ref h1_enter, .ref h1_leave, .ref h1_share, .ref h1_gift, .ref h1_wish, .ref h1_spread, .ref h1_leakBy, .ref h1_joint, .ref h1_part])), (h1_enter, .inl (cI, 6, .inl h1_enter_f)), (h1_leave, .inl (cI, 6, .inl h1_leave_f)), (h1_share, .inl (cI, 8, .inl h1_share_f)), (h1_gift, .inl (cI, 8, .inl h1_gift_f)), (h1_wish, .inl (cI, 8, .inl h1_wish_f)), (h1_spread, .inl (cI, 8, .inl h1_spread_f)), (h1_leakBy, .inl (cI, 13, .inl h1_leakBy_f)), (h1_joint, .inl (cI, 120, .inl h1_joint_f)), (h1_part, .inl (cI, 120, .inl h1_part_f))] := hD
  have z14 : zR 0 60 g12 := zR_cpy h13 z_h1_spread z_h0_spread
  refine lv_aload_n hx hb dX3_copyOf_146 rfl (lv_at hl 1 rfl) ?_
  refine va_get (D := (dC, dI)) (ci := 3) (v := .ref h1_leakBy) (C := RX3) (T := TX3) (N := 16) hx hb hts hi3 hown hK hP 10 rfl rfl 13 (by decide) hk17 (fun _ h9 => h9) rfl dX3_copyOf_147 ?_
  refine lv_iconst (v := 0) hx hb dX3_copyOf_150 (by decide) ?_
  refine lv_aload_n hx hb dX3_copyOf_151 rfl (lv_at hl 0 rfl) ?_
  refine va_get (D := (dC, dI)) (ci := 3) (v := .ref h0_leakBy) (C := RX3) (T := TX3) (N := 16) hx hb hts hi3 hown hK hP 0 rfl rfl 13 (by decide) hk17 (fun _ h9 => h9) rfl dX3_copyOf_152 ?_
  refine lv_iconst (v := 0) hx hb dX3_copyOf_155 (by decide) ?_
  refine lv_bipush (v := 13) hx hb dX3_copyOf_156 (by decide) ?_
  refine y_copyi hx hb (by rw [hml]; exact hl.1.symm) hown hk8 hk9 hk10 hk11 hK hP hD hS 17 7 1 1 rfl rfl rfl rfl rfl (by decide) (by decide) (by decide) (z_fit2 (by decide) (by decide) (by omega) (by omega) (by omega)) (z_fit2 (by decide) (by decide) (by omega) (by omega) (by omega)) (fun _ _ => rfl) (Nat.le_of_ble_eq_true rfl) (Nat.le_of_ble_eq_true rfl) dX3_copyOf_158 (fun H locs g15 h16 hP hD hS => ?_)
  have hP : va_P (dC, dI) vwCl [(h0, .inr (3, [.int h1_lines, .int h1_laws, .int h1_sorts, .int h1_shares, .int h1_parts, .int h1_noise, .int h1_noiseTold, .ref h0_enter, .ref h0_leave, .ref h0_share, .ref h0_gift, .ref h0_wish, .ref h0_spread, .ref h0_leakBy, .ref h0_joint, .ref h0_part])), (h0_enter, .inl (cI, 6, .inl g1)), (h0_leave, .inl (cI, 6, .inl g3)), (h0_share, .inl (cI, 8, .inl g5)), (h0_gift, .inl (cI, 8, .inl g7)), (h0_wish, .inl (cI, 8, .inl g9)), (h0_spread, .inl (cI, 8, .inl g12)), (h0_leakBy, .inl (cI, 13, .inl g15)), (h0_joint, .inl (cI, 120, .inl h0_joint_f)), (h0_part, .inl (cI, 120, .inl h0_part_f)), (h1, .inr (3, [.int h1_lines, .int h1_laws, .int h1_sorts, .int h1_shares, .int h1_parts, .int h1_noise, .int h1_noiseTold, .ref h1_enter, .ref h1_leave, .ref h1_share, .ref h1_gift, .ref h1_wish, .ref h1_spread, .ref h1_leakBy, .ref h1_joint, .ref h1_part])), (h1_enter, .inl (cI, 6, .inl h1_enter_f)), (h1_leave, .inl (cI, 6, .inl h1_leave_f)), (h1_share, .inl (cI, 8, .inl h1_share_f)), (h1_gift, .inl (cI, 8, .inl h1_gift_f)), (h1_wish, .inl (cI, 8, .inl h1_wish_f)), (h1_spread, .inl (cI, 8, .inl h1_spread_f)), (h1_leakBy, .inl (cI, 13, .inl h1_leakBy_f)), (h1_joint, .inl (cI, 120, .inl h1_joint_f)), (h1_part, .inl (cI, 120, .inl h1_part_f))] H := hP
  have hD : va_D A [(h0, .inr (3, [.int h1_lines, .int h1_laws, .int h1_sorts, .int h1_shares, .int h1_parts, .int h1_noise, .int h1_noiseTold, .ref h0_enter, .ref h0_leave, .ref h0_share, .ref h0_gift, .ref h0_wish, .ref h0_spread, .ref h0_leakBy, .ref h0_joint, .ref h0_part])), (h0_enter, .inl (cI, 6, .inl g1)), (h0_leave, .inl (cI, 6, .inl g3)), (h0_share, .inl (cI, 8, .inl g5)), (h0_gift, .inl (cI, 8, .inl g7)), (h0_wish, .inl (cI, 8, .inl g9)), (h0_spread, .inl (cI, 8, .inl g12)), (h0_leakBy, .inl (cI, 13, .inl g15)), (h0_joint, .inl (cI, 120, .inl h0_joint_f)), (h0_part, .inl (cI, 120, .inl h0_part_f)), (h1, .inr (3, [.int h1_lines, .int h1_laws, .int h1_sorts, .int h1_shares, .int h1_parts, .int h1_noise, .int h1_noiseTold, .ref h1_enter, .ref h1_leave, .ref h1_share, .ref h1_gift, .ref h1_wish, .ref h1_spread, .ref h1_leakBy, .ref h1_joint, .ref h1_part])), (h1_enter, .inl (cI, 6, .inl h1_enter_f)), (h1_leave, .inl (cI, 6, .inl h1_leave_f)), (h1_share, .inl (cI, 8, .inl h1_share_f)), (h1_gift, .inl (cI, 8, .inl h1_gift_f)), (h1_wish, .inl (cI, 8, .inl h1_wish_f)), (h1_spread, .inl (cI, 8, .inl h1_spread_f)), (h1_leakBy, .inl (cI, 13, .inl h1_leakBy_f)), (h1_joint, .inl (cI, 120, .inl h1_joint_f)), (h1_part, .inl (cI, 120, .inl h1_part_f))] := hD
  refine lv_aload_n hx hb dX3_copyOf_161 rfl (lv_at hl 1 rfl) ?_
  refine va_get (D := (dC, dI)) (ci := 3) (v := .ref h1_joint) (C := RX3) (T := TX3) (N := 16) hx hb hts hi3 hown hK hP 10 rfl rfl 14 (by decide) hk18 (fun _ h9 => h9) rfl dX3_copyOf_162 ?_
  refine lv_iconst (v := 0) hx hb dX3_copyOf_165 (by decide) ?_
  refine lv_aload_n hx hb dX3_copyOf_166 rfl (lv_at hl 0 rfl) ?_
  refine va_get (D := (dC, dI)) (ci := 3) (v := .ref h0_joint) (C := RX3) (T := TX3) (N := 16) hx hb hts hi3 hown hK hP 0 rfl rfl 14 (by decide) hk18 (fun _ h9 => h9) rfl dX3_copyOf_167 ?_
  refine lv_iconst (v := 0) hx hb dX3_copyOf_170 (by decide) ?_
  refine lv_bipush (v := 120) hx hb dX3_copyOf_171 (by decide) ?_
  refine y_copyi hx hb (by rw [hml]; exact hl.1.symm) hown hk8 hk9 hk10 hk11 hK hP hD hS 18 8 1 1 rfl rfl rfl rfl rfl (by decide) (by decide) (by decide) (z_fit2 (by decide) (by decide) (by omega) (by omega) (by omega)) (z_fit2 (by decide) (by decide) (by omega) (by omega) (by omega)) (fun _ _ => rfl) (Nat.le_of_ble_eq_true rfl) (Nat.le_of_ble_eq_true rfl) dX3_copyOf_173 (fun H locs g17 h18 hP hD hS => ?_)
  have hP : va_P (dC, dI) vwCl [(h0, .inr (3, [.int h1_lines, .int h1_laws, .int h1_sorts, .int h1_shares, .int h1_parts, .int h1_noise, .int h1_noiseTold, .ref h0_enter, .ref h0_leave, .ref h0_share, .ref h0_gift, .ref h0_wish, .ref h0_spread, .ref h0_leakBy, .ref h0_joint, .ref h0_part])), (h0_enter, .inl (cI, 6, .inl g1)), (h0_leave, .inl (cI, 6, .inl g3)), (h0_share, .inl (cI, 8, .inl g5)), (h0_gift, .inl (cI, 8, .inl g7)), (h0_wish, .inl (cI, 8, .inl g9)), (h0_spread, .inl (cI, 8, .inl g12)), (h0_leakBy, .inl (cI, 13, .inl g15)), (h0_joint, .inl (cI, 120, .inl g17)), (h0_part, .inl (cI, 120, .inl h0_part_f)), (h1, .inr (3, [.int h1_lines, .int h1_laws, .int h1_sorts, .int h1_shares, .int h1_parts, .int h1_noise, .int h1_noiseTold, .ref h1_enter, .ref h1_leave, .ref h1_share, .ref h1_gift, .ref h1_wish, .ref h1_spread, .ref h1_leakBy, .ref h1_joint, .ref h1_part])), (h1_enter, .inl (cI, 6, .inl h1_enter_f)), (h1_leave, .inl (cI, 6, .inl h1_leave_f)), (h1_share, .inl (cI, 8, .inl h1_share_f)), (h1_gift, .inl (cI, 8, .inl h1_gift_f)), (h1_wish, .inl (cI, 8, .inl h1_wish_f)), (h1_spread, .inl (cI, 8, .inl h1_spread_f)), (h1_leakBy, .inl (cI, 13, .inl h1_leakBy_f)), (h1_joint, .inl (cI, 120, .inl h1_joint_f)), (h1_part, .inl (cI, 120, .inl h1_part_f))] H := hP
  have hD : va_D A [(h0, .inr (3, [.int h1_lines, .int h1_laws, .int h1_sorts, .int h1_shares, .int h1_parts, .int h1_noise, .int h1_noiseTold, .ref h0_enter, .ref h0_leave, .ref h0_share, .ref h0_gift, .ref h0_wish, .ref h0_spread, .ref h0_leakBy, .ref h0_joint, .ref h0_part])), (h0_enter, .inl (cI, 6, .inl g1)), (h0_leave, .inl (cI, 6, .inl g3)), (h0_share, .inl (cI, 8, .inl g5)), (h0_gift, .inl (cI, 8, .inl g7)), (h0_wish, .inl (cI, 8, .inl g9)), (h0_spread, .inl (cI, 8, .inl g12)), (h0_leakBy, .inl (cI, 13, .inl g15)), (h0_joint, .inl (cI, 120, .inl g17)), (h0_part, .inl (cI, 120, .inl h0_part_f)), (h1, .inr (3, [.int h1_lines, .int h1_laws, .int h1_sorts, .int h1_shares, .int h1_parts, .int h1_noise, .int h1_noiseTold, .ref h1_enter, .ref h1_leave, .ref h1_share, .ref h1_gift, .ref h1_wish, .ref h1_spread, .ref h1_leakBy, .ref h1_joint, .ref h1_part])), (h1_enter, .inl (cI, 6, .inl h1_enter_f)), (h1_leave, .inl (cI, 6, .inl h1_leave_f)), (h1_share, .inl (cI, 8, .inl h1_share_f)), (h1_gift, .inl (cI, 8, .inl h1_gift_f)), (h1_wish, .inl (cI, 8, .inl h1_wish_f)), (h1_spread, .inl (cI, 8, .inl h1_spread_f)), (h1_leakBy, .inl (cI, 13, .inl h1_leakBy_f)), (h1_joint, .inl (cI, 120, .inl h1_joint_f)), (h1_part, .inl (cI, 120, .inl h1_part_f))] := hD
  refine lv_aload_n hx hb dX3_copyOf_176 rfl (lv_at hl 1 rfl) ?_
  refine va_get (D := (dC, dI)) (ci := 3) (v := .ref h1_part) (C := RX3) (T := TX3) (N := 16) hx hb hts hi3 hown hK hP 10 rfl rfl 15 (by decide) hk19 (fun _ h9 => h9) rfl dX3_copyOf_177 ?_
  refine lv_iconst (v := 0) hx hb dX3_copyOf_180 (by decide) ?_
  refine lv_aload_n hx hb dX3_copyOf_181 rfl (lv_at hl 0 rfl) ?_
  refine va_get (D := (dC, dI)) (ci := 3) (v := .ref h0_part) (C := RX3) (T := TX3) (N := 16) hx hb hts hi3 hown hK hP 0 rfl rfl 15 (by decide) hk19 (fun _ h9 => h9) rfl dX3_copyOf_182 ?_
  refine lv_iconst (v := 0) hx hb dX3_copyOf_185 (by decide) ?_
  refine lv_bipush (v := 120) hx hb dX3_copyOf_186 (by decide) ?_
  refine y_copyi hx hb (by rw [hml]; exact hl.1.symm) hown hk8 hk9 hk10 hk11 hK hP hD hS 19 9 1 1 rfl rfl rfl rfl rfl (by decide) (by decide) (by decide) (z_fit2 (by decide) (by decide) (by omega) (by omega) (by omega)) (z_fit2 (by decide) (by decide) (by omega) (by omega) (by omega)) (fun _ _ => rfl) (Nat.le_of_ble_eq_true rfl) (Nat.le_of_ble_eq_true rfl) dX3_copyOf_188 (fun H locs g19 h20 hP hD hS => ?_)
  have hP : va_P (dC, dI) vwCl [(h0, .inr (3, [.int h1_lines, .int h1_laws, .int h1_sorts, .int h1_shares, .int h1_parts, .int h1_noise, .int h1_noiseTold, .ref h0_enter, .ref h0_leave, .ref h0_share, .ref h0_gift, .ref h0_wish, .ref h0_spread, .ref h0_leakBy, .ref h0_joint, .ref h0_part])), (h0_enter, .inl (cI, 6, .inl g1)), (h0_leave, .inl (cI, 6, .inl g3)), (h0_share, .inl (cI, 8, .inl g5)), (h0_gift, .inl (cI, 8, .inl g7)), (h0_wish, .inl (cI, 8, .inl g9)), (h0_spread, .inl (cI, 8, .inl g12)), (h0_leakBy, .inl (cI, 13, .inl g15)), (h0_joint, .inl (cI, 120, .inl g17)), (h0_part, .inl (cI, 120, .inl g19)), (h1, .inr (3, [.int h1_lines, .int h1_laws, .int h1_sorts, .int h1_shares, .int h1_parts, .int h1_noise, .int h1_noiseTold, .ref h1_enter, .ref h1_leave, .ref h1_share, .ref h1_gift, .ref h1_wish, .ref h1_spread, .ref h1_leakBy, .ref h1_joint, .ref h1_part])), (h1_enter, .inl (cI, 6, .inl h1_enter_f)), (h1_leave, .inl (cI, 6, .inl h1_leave_f)), (h1_share, .inl (cI, 8, .inl h1_share_f)), (h1_gift, .inl (cI, 8, .inl h1_gift_f)), (h1_wish, .inl (cI, 8, .inl h1_wish_f)), (h1_spread, .inl (cI, 8, .inl h1_spread_f)), (h1_leakBy, .inl (cI, 13, .inl h1_leakBy_f)), (h1_joint, .inl (cI, 120, .inl h1_joint_f)), (h1_part, .inl (cI, 120, .inl h1_part_f))] H := hP
  have hD : va_D A [(h0, .inr (3, [.int h1_lines, .int h1_laws, .int h1_sorts, .int h1_shares, .int h1_parts, .int h1_noise, .int h1_noiseTold, .ref h0_enter, .ref h0_leave, .ref h0_share, .ref h0_gift, .ref h0_wish, .ref h0_spread, .ref h0_leakBy, .ref h0_joint, .ref h0_part])), (h0_enter, .inl (cI, 6, .inl g1)), (h0_leave, .inl (cI, 6, .inl g3)), (h0_share, .inl (cI, 8, .inl g5)), (h0_gift, .inl (cI, 8, .inl g7)), (h0_wish, .inl (cI, 8, .inl g9)), (h0_spread, .inl (cI, 8, .inl g12)), (h0_leakBy, .inl (cI, 13, .inl g15)), (h0_joint, .inl (cI, 120, .inl g17)), (h0_part, .inl (cI, 120, .inl g19)), (h1, .inr (3, [.int h1_lines, .int h1_laws, .int h1_sorts, .int h1_shares, .int h1_parts, .int h1_noise, .int h1_noiseTold, .ref h1_enter, .ref h1_leave, .ref h1_share, .ref h1_gift, .ref h1_wish, .ref h1_spread, .ref h1_leakBy, .ref h1_joint, .ref h1_part])), (h1_enter, .inl (cI, 6, .inl h1_enter_f)), (h1_leave, .inl (cI, 6, .inl h1_leave_f)), (h1_share, .inl (cI, 8, .inl h1_share_f)), (h1_gift, .inl (cI, 8, .inl h1_gift_f)), (h1_wish, .inl (cI, 8, .inl h1_wish_f)), (h1_spread, .inl (cI, 8, .inl h1_spread_f)), (h1_leakBy, .inl (cI, 13, .inl h1_leakBy_f)), (h1_joint, .inl (cI, 120, .inl h1_joint_f)), (h1_part, .inl (cI, 120, .inl h1_part_f))] := hD
  exact y_vret ((h1_lines, h1_laws, h1_sorts, h1_shares, h1_parts, h1_noise, h1_noiseTold, g1, g3, g5, g7, g9, g12, g15, g17, g19) : Int32 × Int32 × Int32 × Int32 × Int32 × Int32 × Int32 × (Nat → Int32) × (Nat → Int32) × (Nat → Int32) × (Nat → Int32) × (Nat → Int32) × (Nat → Int32) × (Nat → Int32) × (Nat → Int32) × (Nat → Int32)) hx hb hr hlocks hK hP hD hS hAe hQ rfl ⟨(show 0 ≤ h1_laws.toInt from by omega), (show h1_laws.toInt ≤ 6 from by omega), (show 0 ≤ h1_sorts.toInt from by omega), (show h1_sorts.toInt ≤ 8 from by omega), (show 0 ≤ h1_parts.toInt from by omega), (show h1_parts.toInt ≤ 120 from by omega), (show 0 ≤ h1_noiseTold.toInt from by omega), (show h1_noiseTold.toInt ≤ 1 from by omega), z11, z14⟩ dX3_copyOf_191
set_option maxHeartbeats 8000000 in
set_option maxRecDepth 100000 in
theorem k_X3_oldAt (l : Launch) (dC : Nat → ClassId) (dI : Nat → Nat → Nat) (cB cI cJ cZ cP cQ : ClassId) (h0 : Nat) (h0_enter : Nat) (h0_leave : Nat) (h0_share : Nat) (h0_gift : Nat) (h0_wish : Nat) (h0_spread : Nat) (h0_leakBy : Nat) (h0_joint : Nat) (h0_part : Nat) (sz : Nat) (p1 : Int32) (p2 : Int32) (h0_lines : Int32) (h0_laws : Int32) (h0_sorts : Int32) (h0_shares : Int32) (h0_parts : Int32) (h0_noise : Int32) (h0_noiseTold : Int32) (h0_enter_f : Nat → Int32) (e0 : 0 ≤ h0_laws.toInt) (e1 : h0_laws.toInt ≤ 6) (e2 : 0 ≤ h0_sorts.toInt) (e3 : h0_sorts.toInt ≤ 8) (e4 : 0 ≤ h0_parts.toInt) (e5 : h0_parts.toInt ≤ 120) (e6 : 0 ≤ h0_noiseTold.toInt) (e7 : h0_noiseTold.toInt ≤ 1) (e8 : 0 ≤ p1.toInt) (e9 : p1.toInt ≤ 5) : Met l yX3_oldAt wsX3_oldAt ({ frames := 0, cells := 0, slots := 0, locals := 0 } : Room) (zPc [.ref h0, .int p1, .int p2] (dC, dI) (zT cB cI cJ cZ cP cQ) [(h0, .inr (3, [.int h0_lines, .int h0_laws, .int h0_sorts, .int h0_shares, .int h0_parts, .int h0_noise, .int h0_noiseTold, .ref h0_enter, .ref h0_leave, .ref h0_share, .ref h0_gift, .ref h0_wish, .ref h0_spread, .ref h0_leakBy, .ref h0_joint, .ref h0_part])), (h0_enter, .inl (cI, 6, .inl h0_enter_f))] sz [] []) (va_Qi (fun (r : Int32) (u : Unit) => True) (zB (dC, dI) (zT cB cI cJ cZ cP cQ) (fun u : Unit => [(h0, .inr (3, [.int h0_lines, .int h0_laws, .int h0_sorts, .int h0_shares, .int h0_parts, .int h0_noise, .int h0_noiseTold, .ref h0_enter, .ref h0_leave, .ref h0_share, .ref h0_gift, .ref h0_wish, .ref h0_spread, .ref h0_leakBy, .ref h0_joint, .ref h0_part])), (h0_enter, .inl (cI, 6, .inl h0_enter_f))]) [(h0, .inr (3, [.int h0_lines, .int h0_laws, .int h0_sorts, .int h0_shares, .int h0_parts, .int h0_noise, .int h0_noiseTold, .ref h0_enter, .ref h0_leave, .ref h0_share, .ref h0_gift, .ref h0_wish, .ref h0_spread, .ref h0_leakBy, .ref h0_joint, .ref h0_part])), (h0_enter, .inl (cI, 6, .inl h0_enter_f))] sz) (va_A [(h0, .inr (3, [.int h0_lines, .int h0_laws, .int h0_sorts, .int h0_shares, .int h0_parts, .int h0_noise, .int h0_noiseTold, .ref h0_enter, .ref h0_leave, .ref h0_share, .ref h0_gift, .ref h0_wish, .ref h0_spread, .ref h0_leakBy, .ref h0_joint, .ref h0_part])), (h0_enter, .inl (cI, 6, .inl h0_enter_f))] sz)) 0 0 (va_A [(h0, .inr (3, [.int h0_lines, .int h0_laws, .int h0_sorts, .int h0_shares, .int h0_parts, .int h0_noise, .int h0_noiseTold, .ref h0_enter, .ref h0_leave, .ref h0_share, .ref h0_gift, .ref h0_wish, .ref h0_spread, .ref h0_leakBy, .ref h0_joint, .ref h0_part])), (h0_enter, .inl (cI, 6, .inl h0_enter_f))] sz) := by
  refine z_enter (cc := cX3_oldAt) (maxL := 3) (ret := (some .int)) (by decide) rfl (Nat.le_of_ble_eq_true rfl) ?_
  intro p e s m below meth c A ls Q H locs hx hb hr hml hown hts hlocks hin hK hP hD hA hX hS hAe hQ hl
  have hown : s.vm.findClass RX3 = some m.cls := hown
  have hi3 : ∀ w ∈ wsX30, w ∈ wsX3_oldAt := fun w h => List.mem_cons_of_mem _ (List.mem_append_right _ h)
  have hk0 := hts (.fieldLink RX3 9 "MonthPush$Land" "enter" "[I") (by decide +kernel)
  have hl : lv_has ls 3 [(0, .ref h0), (1, .int p1), (2, .int p2)] := hl
  refine lv_bipush (v := 12) hx hb dX3_oldAt_0 (by decide) ?_
  refine lv_aload_n hx hb dX3_oldAt_2 rfl (lv_at hl 0 rfl) ?_
  refine va_get (D := (dC, dI)) (ci := 3) (v := .ref h0_enter) (C := RX3) (T := TX3) (N := 16) hx hb hts hi3 hown hK hP 0 rfl rfl 7 (by decide) hk0 (fun _ h9 => h9) rfl dX3_oldAt_3 ?_
  refine lv_iload_n hx hb dX3_oldAt_6 rfl (lv_at hl 1 rfl) ?_
  refine va_iald hx hb hK hP 1 1 rfl rfl (z_in rfl (by omega) (by omega)) dX3_oldAt_7 ?_
  refine lv_imul hx hb dX3_oldAt_8 ?_
  refine lv_topi (fun r1 _ => ?_)
  refine lv_bipush (v := 9) hx hb dX3_oldAt_9 (by decide) ?_
  refine lv_iadd hx hb dX3_oldAt_11 ?_
  refine lv_topi (fun r2 _ => ?_)
  refine lv_iload_n hx hb dX3_oldAt_12 rfl (lv_at hl 2 rfl) ?_
  refine lv_isub hx hb dX3_oldAt_13 ?_
  refine lv_topi (fun r3 _ => ?_)
  exact y_iret () hx hb hr hlocks hK hP hD hS hAe hQ rfl trivial dX3_oldAt_14
set_option maxHeartbeats 8000000 in
set_option maxRecDepth 100000 in
theorem k_X3_forcedAt (l : Launch) (dC : Nat → ClassId) (dI : Nat → Nat → Nat) (cB cI cJ cZ cP cQ : ClassId) (h0 : Nat) (h0_enter : Nat) (h0_leave : Nat) (h0_share : Nat) (h0_gift : Nat) (h0_wish : Nat) (h0_spread : Nat) (h0_leakBy : Nat) (h0_joint : Nat) (h0_part : Nat) (sz : Nat) (p1 : Int32) (p2 : Int32) (h0_lines : Int32) (h0_laws : Int32) (h0_sorts : Int32) (h0_shares : Int32) (h0_parts : Int32) (h0_noise : Int32) (h0_noiseTold : Int32) (h0_enter_f : Nat → Int32) (h0_leave_f : Nat → Int32) (e0 : 0 ≤ h0_laws.toInt) (e1 : h0_laws.toInt ≤ 6) (e2 : 0 ≤ h0_sorts.toInt) (e3 : h0_sorts.toInt ≤ 8) (e4 : 0 ≤ h0_parts.toInt) (e5 : h0_parts.toInt ≤ 120) (e6 : 0 ≤ h0_noiseTold.toInt) (e7 : h0_noiseTold.toInt ≤ 1) (e8 : 0 ≤ p1.toInt) (e9 : p1.toInt ≤ 5) : Met l yX3_forcedAt wsX3_forcedAt ({ frames := 1, cells := 0, slots := 0, locals := 22 } : Room) (zPc [.ref h0, .int p1, .int p2] (dC, dI) (zT cB cI cJ cZ cP cQ) [(h0, .inr (3, [.int h0_lines, .int h0_laws, .int h0_sorts, .int h0_shares, .int h0_parts, .int h0_noise, .int h0_noiseTold, .ref h0_enter, .ref h0_leave, .ref h0_share, .ref h0_gift, .ref h0_wish, .ref h0_spread, .ref h0_leakBy, .ref h0_joint, .ref h0_part])), (h0_enter, .inl (cI, 6, .inl h0_enter_f)), (h0_leave, .inl (cI, 6, .inl h0_leave_f))] sz [] []) (va_Qi (fun (r : Int32) (u : Unit) => True) (zB (dC, dI) (zT cB cI cJ cZ cP cQ) (fun u : Unit => [(h0, .inr (3, [.int h0_lines, .int h0_laws, .int h0_sorts, .int h0_shares, .int h0_parts, .int h0_noise, .int h0_noiseTold, .ref h0_enter, .ref h0_leave, .ref h0_share, .ref h0_gift, .ref h0_wish, .ref h0_spread, .ref h0_leakBy, .ref h0_joint, .ref h0_part])), (h0_enter, .inl (cI, 6, .inl h0_enter_f)), (h0_leave, .inl (cI, 6, .inl h0_leave_f))]) [(h0, .inr (3, [.int h0_lines, .int h0_laws, .int h0_sorts, .int h0_shares, .int h0_parts, .int h0_noise, .int h0_noiseTold, .ref h0_enter, .ref h0_leave, .ref h0_share, .ref h0_gift, .ref h0_wish, .ref h0_spread, .ref h0_leakBy, .ref h0_joint, .ref h0_part])), (h0_enter, .inl (cI, 6, .inl h0_enter_f)), (h0_leave, .inl (cI, 6, .inl h0_leave_f))] sz) (va_A [(h0, .inr (3, [.int h0_lines, .int h0_laws, .int h0_sorts, .int h0_shares, .int h0_parts, .int h0_noise, .int h0_noiseTold, .ref h0_enter, .ref h0_leave, .ref h0_share, .ref h0_gift, .ref h0_wish, .ref h0_spread, .ref h0_leakBy, .ref h0_joint, .ref h0_part])), (h0_enter, .inl (cI, 6, .inl h0_enter_f)), (h0_leave, .inl (cI, 6, .inl h0_leave_f))] sz)) 0 0 (va_A [(h0, .inr (3, [.int h0_lines, .int h0_laws, .int h0_sorts, .int h0_shares, .int h0_parts, .int h0_noise, .int h0_noiseTold, .ref h0_enter, .ref h0_leave, .ref h0_share, .ref h0_gift, .ref h0_wish, .ref h0_spread, .ref h0_leakBy, .ref h0_joint, .ref h0_part])), (h0_enter, .inl (cI, 6, .inl h0_enter_f)), (h0_leave, .inl (cI, 6, .inl h0_leave_f))] sz) := by
  refine z_enter (cc := cX3_forcedAt) (maxL := 3) (ret := (some .int)) (by decide) rfl (Nat.le_of_ble_eq_true rfl) ?_
  intro p e s m below meth c A ls Q H locs hx hb hr hml hown hts hlocks hin hK hP hD hA hX hS hAe hQ hl
  have hown : s.vm.findClass RX3 = some m.cls := hown
  have hi3 : ∀ w ∈ wsX30, w ∈ wsX3_forcedAt := fun w h => List.mem_cons_of_mem _ (List.mem_append_right _ h)
  have hk0 := hts (.fieldLink RX3 15 "MonthPush$Land" "leave" "[I") (by decide +kernel)
  have hl : lv_has ls 3 [(0, .ref h0), (1, .int p1), (2, .int p2)] := hl
  refine lv_bipush (v := 12) hx hb dX3_forcedAt_0 (by decide) ?_
  refine lv_aload_n hx hb dX3_forcedAt_2 rfl (lv_at hl 0 rfl) ?_
  refine va_get (D := (dC, dI)) (ci := 3) (v := .ref h0_leave) (C := RX3) (T := TX3) (N := 16) hx hb hts hi3 hown hK hP 0 rfl rfl 8 (by decide) hk0 (fun _ h9 => h9) rfl dX3_forcedAt_3 ?_
  refine lv_iload_n hx hb dX3_forcedAt_6 rfl (lv_at hl 1 rfl) ?_
  refine va_iald hx hb hK hP 2 1 rfl rfl (z_in rfl (by omega) (by omega)) dX3_forcedAt_7 ?_
  refine lv_imul hx hb dX3_forcedAt_8 ?_
  refine lv_topi (fun r1 _ => ?_)
  refine lv_aload_n hx hb dX3_forcedAt_9 rfl (lv_at hl 0 rfl) ?_
  refine lv_iload_n hx hb dX3_forcedAt_10 rfl (lv_at hl 1 rfl) ?_
  refine lv_iload_n hx hb dX3_forcedAt_11 rfl (lv_at hl 2 rfl) ?_
  refine y_fini (w' := fun (u2 : Unit) => [(h0, .inr (3, [.int h0_lines, .int h0_laws, .int h0_sorts, .int h0_shares, .int h0_parts, .int h0_noise, .int h0_noiseTold, .ref h0_enter, .ref h0_leave, .ref h0_share, .ref h0_gift, .ref h0_wish, .ref h0_spread, .ref h0_leakBy, .ref h0_joint, .ref h0_part])), (h0_enter, .inl (cI, 6, .inl h0_enter_f)), (h0_leave, .inl (cI, 6, .inl h0_leave_f))]) (va_runV (As := [.int p1, .int p2]) (rest := [.int r1]) ⟨hx, hb, hml, hown, hts⟩ (k_X3_oldAt l dC dI cB cI cJ cZ cP cQ h0 h0_enter h0_leave h0_share h0_gift h0_wish h0_spread h0_leakBy h0_joint h0_part H.size p1 p2 h0_lines h0_laws h0_sorts h0_shares h0_parts h0_noise h0_noiseTold h0_enter_f (show 0 ≤ h0_laws.toInt from by omega) (show h0_laws.toInt ≤ 6 from by omega) (show 0 ≤ h0_sorts.toInt from by omega) (show h0_sorts.toInt ≤ 8 from by omega) (show 0 ≤ h0_parts.toInt from by omega) (show h0_parts.toInt ≤ 120 from by omega) (show 0 ≤ h0_noiseTold.toInt from by omega) (show h0_noiseTold.toInt ≤ 1 from by omega) (show 0 ≤ p1.toInt from by omega) (show p1.toInt ≤ 5 from by omega)) (cwV 2 hts gX3_forcedAt_X3_oldAt rfl rfl rfl (by decide +kernel) ⟨Nat.le_of_ble_eq_true rfl, Nat.le_of_ble_eq_true rfl⟩) (z_pV (ci := 3) hK hP hD zX_nil [0, 1] (by decide) rfl rfl 0 rfl) rfl rfl hl.1 rfl (lv_room (Nat.le_of_ble_eq_true rfl)) dX3_forcedAt_12 ⟨Nat.le_of_ble_eq_true rfl, Nat.le_of_ble_eq_true rfl⟩) hP hD hS hA [0, 1] [2] [1, 2, 0] rfl rfl (by decide) (by decide) (fun _ => rfl) (by decide) (fun r3 u2 H locs hp4 hP hD hS => ?_)
  have hP : va_P (dC, dI) vwCl [(h0, .inr (3, [.int h0_lines, .int h0_laws, .int h0_sorts, .int h0_shares, .int h0_parts, .int h0_noise, .int h0_noiseTold, .ref h0_enter, .ref h0_leave, .ref h0_share, .ref h0_gift, .ref h0_wish, .ref h0_spread, .ref h0_leakBy, .ref h0_joint, .ref h0_part])), (h0_enter, .inl (cI, 6, .inl h0_enter_f)), (h0_leave, .inl (cI, 6, .inl h0_leave_f))] H := hP
  have hD : va_D A [(h0, .inr (3, [.int h0_lines, .int h0_laws, .int h0_sorts, .int h0_shares, .int h0_parts, .int h0_noise, .int h0_noiseTold, .ref h0_enter, .ref h0_leave, .ref h0_share, .ref h0_gift, .ref h0_wish, .ref h0_spread, .ref h0_leakBy, .ref h0_joint, .ref h0_part])), (h0_enter, .inl (cI, 6, .inl h0_enter_f)), (h0_leave, .inl (cI, 6, .inl h0_leave_f))] := hD
  have hp4 : True := hp4
  refine lv_isub hx hb dX3_forcedAt_15 ?_
  refine lv_topi (fun r6 _ => ?_)
  exact y_iret () hx hb hr hlocks hK hP hD hS hAe hQ rfl trivial dX3_forcedAt_16
set_option maxHeartbeats 8000000 in
set_option maxRecDepth 100000 in
theorem k_X8_within (l : Launch) (dC : Nat → ClassId) (dI : Nat → Nat → Nat) (cB cI cJ cZ cP cQ : ClassId) (sz : Nat) (p0 : Int32) (p1 : Int32) (p2 : Int32) : Met l yX8_within wsX8_within ({ frames := 0, cells := 0, slots := 0, locals := 0 } : Room) (zPc [.int p0, .int p1, .int p2] (dC, dI) (zT cB cI cJ cZ cP cQ) [] sz [] []) (va_Qi (fun (r : Int32) (u : Unit) => (r = 0 ∧ (p0.toInt < p1.toInt ∨ (p1.toInt ≤ p0.toInt ∧ p2.toInt < p0.toInt))) ∨ (r = 1 ∧ p1.toInt ≤ p0.toInt ∧ p0.toInt ≤ p2.toInt)) (zB (dC, dI) (zT cB cI cJ cZ cP cQ) (fun u : Unit => []) [] sz) (va_A [] sz)) 0 0 (va_A [] sz) := by
  refine z_enter (cc := cX8_within) (maxL := 3) (ret := (some .boolean)) (by decide) rfl (Nat.le_of_ble_eq_true rfl) ?_
  intro p e s m below meth c A ls Q H locs hx hb hr hml hown hts hlocks hin hK hP hD hA hX hS hAe hQ hl
  have hown : s.vm.findClass RX8 = some m.cls := hown
  have hl : lv_has ls 3 [(0, .int p0), (1, .int p1), (2, .int p2)] := hl
  refine lv_iload_n hx hb dX8_within_0 rfl (lv_at hl 0 rfl) ?_
  refine lv_iload_n hx hb dX8_within_1 rfl (lv_at hl 1 rfl) ?_
  refine lv_icmp_lt (tgt := 14) hx hb dX8_within_2 (by decide) (fun c_1 => ?_) (fun c_1 => ?_)
  · have f2 : p0.toInt < p1.toInt := z_lt rfl rfl c_1
    refine lv_iconst (v := 0) hx hb dX8_within_14 (by decide) ?_
    exact y_zret () hx hb hr hlocks hK hP hD hS hAe hQ rfl (Or.inl ⟨rfl, (Or.inl f2)⟩) (by decide) dX8_within_15
  · have f2 : p1.toInt ≤ p0.toInt := z_nlt rfl rfl c_1
    refine lv_iload_n hx hb dX8_within_5 rfl (lv_at hl 0 rfl) ?_
    refine lv_iload_n hx hb dX8_within_6 rfl (lv_at hl 2 rfl) ?_
    refine lv_icmp_gt (tgt := 14) hx hb dX8_within_7 (by decide) (fun c_3 => ?_) (fun c_3 => ?_)
    · have f4 : p2.toInt < p0.toInt := z_lt rfl rfl c_3
      refine lv_iconst (v := 0) hx hb dX8_within_14 (by decide) ?_
      exact y_zret () hx hb hr hlocks hK hP hD hS hAe hQ rfl (Or.inl ⟨rfl, (Or.inr ⟨f2, f4⟩)⟩) (by decide) dX8_within_15
    · have f4 : p0.toInt ≤ p2.toInt := z_nlt rfl rfl c_3
      refine lv_iconst (v := 1) hx hb dX8_within_10 (by decide) ?_
      refine lv_goto (tgt := 15) hx hb dX8_within_11 (by decide) ?_
      exact y_zret () hx hb hr hlocks hK hP hD hS hAe hQ rfl (Or.inr ⟨rfl, ⟨f2, f4⟩⟩) (by decide) dX8_within_15
set_option maxHeartbeats 8000000 in
set_option maxRecDepth 100000 in
theorem k_X8_isMonth (l : Launch) (dC : Nat → ClassId) (dI : Nat → Nat → Nat) (cB cI cJ cZ cP cQ : ClassId) (sz : Nat) (p0 : Int32) : Met l yX8_isMonth wsX8_isMonth ({ frames := 1, cells := 0, slots := 0, locals := 22 } : Room) (zPc [.int p0] (dC, dI) (zT cB cI cJ cZ cP cQ) [] sz [] []) (va_Qi (fun (r : Int32) (u : Unit) => (r = 0 ∧ ((p0.toInt < (1 : Int) ∨ ((1 : Int) ≤ p0.toInt ∧ (12 : Int) < p0.toInt)))) ∨ (r = 1 ∧ ((1 : Int) ≤ p0.toInt ∧ p0.toInt ≤ (12 : Int)))) (zB (dC, dI) (zT cB cI cJ cZ cP cQ) (fun u : Unit => []) [] sz) (va_A [] sz)) 0 0 (va_A [] sz) := by
  refine z_enter (cc := cX8_isMonth) (maxL := 1) (ret := (some .boolean)) (by decide) rfl (Nat.le_of_ble_eq_true rfl) ?_
  intro p e s m below meth c A ls Q H locs hx hb hr hml hown hts hlocks hin hK hP hD hA hX hS hAe hQ hl
  have hown : s.vm.findClass RX8 = some m.cls := hown
  have hl : lv_has ls 1 [(0, .int p0)] := hl
  refine lv_iload_n hx hb dX8_isMonth_0 rfl (lv_at hl 0 rfl) ?_
  refine lv_iconst (v := 1) hx hb dX8_isMonth_1 (by decide) ?_
  refine lv_bipush (v := 12) hx hb dX8_isMonth_2 (by decide) ?_
  refine y_fini (w' := fun (u1 : Unit) => []) (va_runS (As := [.int p0, .int 1, .int 12]) (rest := []) ⟨hx, hb, hml, hown, hts⟩ (k_X8_within l dC dI cB cI cJ cZ cP cQ H.size p0 1 12) (va_cwS 3 hts gX8_isMonth_X8_within rfl rfl rfl (by decide +kernel) ⟨Nat.le_of_ble_eq_true rfl, Nat.le_of_ble_eq_true rfl⟩) (z_pS hK hP hD zX_nil [] (by decide) rfl) rfl rfl hl.1 rfl (lv_room (Nat.le_of_ble_eq_true rfl)) dX8_isMonth_4 ⟨Nat.le_of_ble_eq_true rfl, Nat.le_of_ble_eq_true rfl⟩) hP hD hS hA [] [] [] rfl rfl (by decide) (by decide) (fun _ => rfl) (by decide) (fun r2 u1 H locs hp3 hP hD hS => ?_)
  have hP : va_P (dC, dI) vwCl [] H := hP
  have hD : va_D A [] := hD
  have hp3 : (r2 = 0 ∧ (p0.toInt < (1 : Int) ∨ ((1 : Int) ≤ p0.toInt ∧ (12 : Int) < p0.toInt))) ∨ (r2 = 1 ∧ (1 : Int) ≤ p0.toInt ∧ p0.toInt ≤ (12 : Int)) := hp3
  rcases hp3 with f4 | f5
  · obtain ⟨rfl, f4⟩ := f4
    exact y_zret () hx hb hr hlocks hK hP hD hS hAe hQ rfl (Or.inl ⟨rfl, f4⟩) (by decide) dX8_isMonth_7
  · obtain ⟨rfl, f5⟩ := f5
    exact y_zret () hx hb hr hlocks hK hP hD hS hAe hQ rfl (Or.inr ⟨rfl, f5⟩) (by decide) dX8_isMonth_7
set_option maxHeartbeats 8000000 in
set_option maxRecDepth 100000 in
theorem k_X3_hasLeak (l : Launch) (dC : Nat → ClassId) (dI : Nat → Nat → Nat) (cB cI cJ cZ cP cQ : ClassId) (h0 : Nat) (h0_enter : Nat) (h0_leave : Nat) (h0_share : Nat) (h0_gift : Nat) (h0_wish : Nat) (h0_spread : Nat) (h0_leakBy : Nat) (h0_joint : Nat) (h0_part : Nat) (sz : Nat) (p1 : Int32) (h0_lines : Int32) (h0_laws : Int32) (h0_sorts : Int32) (h0_shares : Int32) (h0_parts : Int32) (h0_noise : Int32) (h0_noiseTold : Int32) (h0_leakBy_f : Nat → Int32) (e0 : 0 ≤ h0_laws.toInt) (e1 : h0_laws.toInt ≤ 6) (e2 : 0 ≤ h0_sorts.toInt) (e3 : h0_sorts.toInt ≤ 8) (e4 : 0 ≤ h0_parts.toInt) (e5 : h0_parts.toInt ≤ 120) (e6 : 0 ≤ h0_noiseTold.toInt) (e7 : h0_noiseTold.toInt ≤ 1) : Met l yX3_hasLeak wsX3_hasLeak ({ frames := 2, cells := 0, slots := 0, locals := 42 } : Room) (zPc [.ref h0, .int p1] (dC, dI) (zT cB cI cJ cZ cP cQ) [(h0, .inr (3, [.int h0_lines, .int h0_laws, .int h0_sorts, .int h0_shares, .int h0_parts, .int h0_noise, .int h0_noiseTold, .ref h0_enter, .ref h0_leave, .ref h0_share, .ref h0_gift, .ref h0_wish, .ref h0_spread, .ref h0_leakBy, .ref h0_joint, .ref h0_part])), (h0_leakBy, .inl (cI, 13, .inl h0_leakBy_f))] sz [(RX3, 74, yX8_isMonth, "MonthPush")] []) (va_Qi (fun (r : Int32) (u : Unit) => (r = 0 ∧ ((((p1.toInt < (1 : Int) ∨ ((1 : Int) ≤ p1.toInt ∧ (12 : Int) < p1.toInt)))) ∨ ((((1 : Int) ≤ p1.toInt ∧ p1.toInt ≤ (12 : Int))) ∧ (h0_leakBy_f p1.toNatClampNeg).toInt = (-1)))) ∨ (r = 1 ∧ (((1 : Int) ≤ p1.toInt ∧ p1.toInt ≤ (12 : Int))) ∧ ¬ (h0_leakBy_f p1.toNatClampNeg).toInt = (-1))) (zB (dC, dI) (zT cB cI cJ cZ cP cQ) (fun u : Unit => [(h0, .inr (3, [.int h0_lines, .int h0_laws, .int h0_sorts, .int h0_shares, .int h0_parts, .int h0_noise, .int h0_noiseTold, .ref h0_enter, .ref h0_leave, .ref h0_share, .ref h0_gift, .ref h0_wish, .ref h0_spread, .ref h0_leakBy, .ref h0_joint, .ref h0_part])), (h0_leakBy, .inl (cI, 13, .inl h0_leakBy_f))]) [(h0, .inr (3, [.int h0_lines, .int h0_laws, .int h0_sorts, .int h0_shares, .int h0_parts, .int h0_noise, .int h0_noiseTold, .ref h0_enter, .ref h0_leave, .ref h0_share, .ref h0_gift, .ref h0_wish, .ref h0_spread, .ref h0_leakBy, .ref h0_joint, .ref h0_part])), (h0_leakBy, .inl (cI, 13, .inl h0_leakBy_f))] sz) (va_A [(h0, .inr (3, [.int h0_lines, .int h0_laws, .int h0_sorts, .int h0_shares, .int h0_parts, .int h0_noise, .int h0_noiseTold, .ref h0_enter, .ref h0_leave, .ref h0_share, .ref h0_gift, .ref h0_wish, .ref h0_spread, .ref h0_leakBy, .ref h0_joint, .ref h0_part])), (h0_leakBy, .inl (cI, 13, .inl h0_leakBy_f))] sz)) 0 0 (va_A [(h0, .inr (3, [.int h0_lines, .int h0_laws, .int h0_sorts, .int h0_shares, .int h0_parts, .int h0_noise, .int h0_noiseTold, .ref h0_enter, .ref h0_leave, .ref h0_share, .ref h0_gift, .ref h0_wish, .ref h0_spread, .ref h0_leakBy, .ref h0_joint, .ref h0_part])), (h0_leakBy, .inl (cI, 13, .inl h0_leakBy_f))] sz) := by
  refine z_enter (cc := cX3_hasLeak) (maxL := 2) (ret := (some .boolean)) (by decide) rfl (Nat.le_of_ble_eq_true rfl) ?_
  intro p e s m below meth c A ls Q H locs hx hb hr hml hown hts hlocks hin hK hP hD hA hX hS hAe hQ hl
  have hown : s.vm.findClass RX3 = some m.cls := hown
  have hi3 : ∀ w ∈ wsX30, w ∈ wsX3_hasLeak := fun w h => List.mem_cons_of_mem _ (List.mem_append_right _ h)
  have hk0 := hts (.initialized RX8) (by decide +kernel)
  have hk1 := hts (.static yX8_isMonth) (by decide +kernel)
  have hk2 := hts (.fieldLink RX3 30 "MonthPush$Land" "leakBy" "[I") (by decide +kernel)
  have hl : lv_has ls 2 [(0, .ref h0), (1, .int p1)] := hl
  refine lv_iload_n hx hb dX3_hasLeak_0 rfl (lv_at hl 1 rfl) ?_
  refine y_fini (w' := fun (u1 : Unit) => [(h0, .inr (3, [.int h0_lines, .int h0_laws, .int h0_sorts, .int h0_shares, .int h0_parts, .int h0_noise, .int h0_noiseTold, .ref h0_enter, .ref h0_leave, .ref h0_share, .ref h0_gift, .ref h0_wish, .ref h0_spread, .ref h0_leakBy, .ref h0_joint, .ref h0_part])), (h0_leakBy, .inl (cI, 13, .inl h0_leakBy_f))]) (va_runSN (As := [.int p1]) (rest := []) ⟨hx, hb, hml, hown, hts⟩ (k_X8_isMonth l dC dI cB cI cJ cZ cP cQ H.size p1) ⟨va_cnB 1 hts gX3_hasLeak_X8_isMonth_n74 rfl rfl rfl (hX.1 (RX3, 74, yX8_isMonth, "MonthPush") (by decide +kernel)) hk0 (by decide +kernel) ⟨Nat.le_of_ble_eq_true rfl, Nat.le_of_ble_eq_true rfl⟩, hk1, trivial⟩ (z_pS hK hP hD zX_nil [] (by decide) rfl) rfl rfl hl.1 rfl (lv_room (Nat.le_of_ble_eq_true rfl)) dX3_hasLeak_1 ⟨Nat.le_of_ble_eq_true rfl, Nat.le_of_ble_eq_true rfl⟩) hP hD hS hA [] [0, 1] [0, 1] rfl rfl (by decide) (by decide) (fun _ => rfl) (by decide) (fun r2 u1 H locs hp3 hP hD hS => ?_)
  have hP : va_P (dC, dI) vwCl [(h0, .inr (3, [.int h0_lines, .int h0_laws, .int h0_sorts, .int h0_shares, .int h0_parts, .int h0_noise, .int h0_noiseTold, .ref h0_enter, .ref h0_leave, .ref h0_share, .ref h0_gift, .ref h0_wish, .ref h0_spread, .ref h0_leakBy, .ref h0_joint, .ref h0_part])), (h0_leakBy, .inl (cI, 13, .inl h0_leakBy_f))] H := hP
  have hD : va_D A [(h0, .inr (3, [.int h0_lines, .int h0_laws, .int h0_sorts, .int h0_shares, .int h0_parts, .int h0_noise, .int h0_noiseTold, .ref h0_enter, .ref h0_leave, .ref h0_share, .ref h0_gift, .ref h0_wish, .ref h0_spread, .ref h0_leakBy, .ref h0_joint, .ref h0_part])), (h0_leakBy, .inl (cI, 13, .inl h0_leakBy_f))] := hD
  have hp3 : (r2 = 0 ∧ ((p1.toInt < (1 : Int) ∨ ((1 : Int) ≤ p1.toInt ∧ (12 : Int) < p1.toInt)))) ∨ (r2 = 1 ∧ ((1 : Int) ≤ p1.toInt ∧ p1.toInt ≤ (12 : Int))) := hp3
  rcases hp3 with f4 | f5
  · obtain ⟨rfl, f4⟩ := f4
    refine lv_if_eq (tgt := 21) hx hb dX3_hasLeak_4 (by decide) (fun _ => ?_) (fun c => absurd (by decide) c)
    refine lv_iconst (v := 0) hx hb dX3_hasLeak_21 (by decide) ?_
    exact y_zret () hx hb hr hlocks hK hP hD hS hAe hQ rfl (Or.inl ⟨rfl, (Or.inl f4)⟩) (by decide) dX3_hasLeak_22
  · obtain ⟨rfl, f5⟩ := f5
    refine lv_if_eq (tgt := 21) hx hb dX3_hasLeak_4 (by decide) (fun c => absurd c (by decide)) (fun _ => ?_)
    refine lv_aload_n hx hb dX3_hasLeak_7 rfl (lv_at hl 0 rfl) ?_
    refine va_get (D := (dC, dI)) (ci := 3) (v := .ref h0_leakBy) (C := RX3) (T := TX3) (N := 16) hx hb hts hi3 hown hK hP 0 rfl rfl 13 (by decide) hk2 (fun _ h9 => h9) rfl dX3_hasLeak_8 ?_
    refine lv_iload_n hx hb dX3_hasLeak_11 rfl (lv_at hl 1 rfl) ?_
    refine va_iald hx hb hK hP 1 1 rfl rfl (z_in rfl (by omega) (by omega)) dX3_hasLeak_12 ?_
    refine lv_iconst (v := (-1)) hx hb dX3_hasLeak_13 (by decide) ?_
    refine lv_icmp_eq (tgt := 21) hx hb dX3_hasLeak_14 (by decide) (fun c_6 => ?_) (fun c_6 => ?_)
    · have f7 : (h0_leakBy_f p1.toNatClampNeg).toInt = (-1) := z_eq rfl (by decide) c_6
      refine lv_iconst (v := 0) hx hb dX3_hasLeak_21 (by decide) ?_
      exact y_zret () hx hb hr hlocks hK hP hD hS hAe hQ rfl (Or.inl ⟨rfl, (Or.inr ⟨f5, f7⟩)⟩) (by decide) dX3_hasLeak_22
    · have f7 : ¬ (h0_leakBy_f p1.toNatClampNeg).toInt = (-1) := z_ne rfl (by decide) c_6
      refine lv_iconst (v := 1) hx hb dX3_hasLeak_17 (by decide) ?_
      refine lv_goto (tgt := 22) hx hb dX3_hasLeak_18 (by decide) ?_
      exact y_zret () hx hb hr hlocks hK hP hD hS hAe hQ rfl (Or.inr ⟨rfl, ⟨f5, f7⟩⟩) (by decide) dX3_hasLeak_22
set_option maxHeartbeats 8000000 in
set_option maxRecDepth 100000 in
theorem k_X3_hasState (l : Launch) (dC : Nat → ClassId) (dI : Nat → Nat → Nat) (cB cI cJ cZ cP cQ : ClassId) (h0 : Nat) (h0_enter : Nat) (h0_leave : Nat) (h0_share : Nat) (h0_gift : Nat) (h0_wish : Nat) (h0_spread : Nat) (h0_leakBy : Nat) (h0_joint : Nat) (h0_part : Nat) (sz : Nat) (p1 : Int32) (h0_lines : Int32) (h0_laws : Int32) (h0_sorts : Int32) (h0_shares : Int32) (h0_parts : Int32) (h0_noise : Int32) (h0_noiseTold : Int32) (e0 : 0 ≤ h0_laws.toInt) (e1 : h0_laws.toInt ≤ 6) (e2 : 0 ≤ h0_sorts.toInt) (e3 : h0_sorts.toInt ≤ 8) (e4 : 0 ≤ h0_parts.toInt) (e5 : h0_parts.toInt ≤ 120) (e6 : 0 ≤ h0_noiseTold.toInt) (e7 : h0_noiseTold.toInt ≤ 1) : Met l yX3_hasState wsX3_hasState ({ frames := 0, cells := 0, slots := 0, locals := 0 } : Room) (zPc [.ref h0, .int p1] (dC, dI) (zT cB cI cJ cZ cP cQ) [(h0, .inr (3, [.int h0_lines, .int h0_laws, .int h0_sorts, .int h0_shares, .int h0_parts, .int h0_noise, .int h0_noiseTold, .ref h0_enter, .ref h0_leave, .ref h0_share, .ref h0_gift, .ref h0_wish, .ref h0_spread, .ref h0_leakBy, .ref h0_joint, .ref h0_part]))] sz [] []) (va_Qi (fun (r : Int32) (u : Unit) => (r = 0 ∧ (p1.toInt < 0 ∨ (0 ≤ p1.toInt ∧ h0_laws.toInt ≤ p1.toInt))) ∨ (r = 1 ∧ 0 ≤ p1.toInt ∧ p1.toInt < h0_laws.toInt)) (zB (dC, dI) (zT cB cI cJ cZ cP cQ) (fun u : Unit => [(h0, .inr (3, [.int h0_lines, .int h0_laws, .int h0_sorts, .int h0_shares, .int h0_parts, .int h0_noise, .int h0_noiseTold, .ref h0_enter, .ref h0_leave, .ref h0_share, .ref h0_gift, .ref h0_wish, .ref h0_spread, .ref h0_leakBy, .ref h0_joint, .ref h0_part]))]) [(h0, .inr (3, [.int h0_lines, .int h0_laws, .int h0_sorts, .int h0_shares, .int h0_parts, .int h0_noise, .int h0_noiseTold, .ref h0_enter, .ref h0_leave, .ref h0_share, .ref h0_gift, .ref h0_wish, .ref h0_spread, .ref h0_leakBy, .ref h0_joint, .ref h0_part]))] sz) (va_A [(h0, .inr (3, [.int h0_lines, .int h0_laws, .int h0_sorts, .int h0_shares, .int h0_parts, .int h0_noise, .int h0_noiseTold, .ref h0_enter, .ref h0_leave, .ref h0_share, .ref h0_gift, .ref h0_wish, .ref h0_spread, .ref h0_leakBy, .ref h0_joint, .ref h0_part]))] sz)) 0 0 (va_A [(h0, .inr (3, [.int h0_lines, .int h0_laws, .int h0_sorts, .int h0_shares, .int h0_parts, .int h0_noise, .int h0_noiseTold, .ref h0_enter, .ref h0_leave, .ref h0_share, .ref h0_gift, .ref h0_wish, .ref h0_spread, .ref h0_leakBy, .ref h0_joint, .ref h0_part]))] sz) := by
  refine z_enter (cc := cX3_hasState) (maxL := 2) (ret := (some .boolean)) (by decide) rfl (Nat.le_of_ble_eq_true rfl) ?_
  intro p e s m below meth c A ls Q H locs hx hb hr hml hown hts hlocks hin hK hP hD hA hX hS hAe hQ hl
  have hown : s.vm.findClass RX3 = some m.cls := hown
  have hi3 : ∀ w ∈ wsX30, w ∈ wsX3_hasState := fun w h => List.mem_cons_of_mem _ (List.mem_append_right _ h)
  have hk0 := hts (.fieldLink RX3 49 "MonthPush$Land" "laws" "I") (by decide +kernel)
  have hl : lv_has ls 2 [(0, .ref h0), (1, .int p1)] := hl
  refine lv_iload_n hx hb dX3_hasState_0 rfl (lv_at hl 1 rfl) ?_
  refine lv_if_lt (tgt := 16) hx hb dX3_hasState_1 (by decide) (fun c_1 => ?_) (fun c_1 => ?_)
  · have f2 : p1.toInt < 0 := z_lt rfl (by decide) c_1
    refine lv_iconst (v := 0) hx hb dX3_hasState_16 (by decide) ?_
    exact y_zret () hx hb hr hlocks hK hP hD hS hAe hQ rfl (Or.inl ⟨rfl, (Or.inl f2)⟩) (by decide) dX3_hasState_17
  · have f2 : 0 ≤ p1.toInt := z_nlt rfl (by decide) c_1
    refine lv_iload_n hx hb dX3_hasState_4 rfl (lv_at hl 1 rfl) ?_
    refine lv_aload_n hx hb dX3_hasState_5 rfl (lv_at hl 0 rfl) ?_
    refine va_get (D := (dC, dI)) (ci := 3) (v := .int h0_laws) (C := RX3) (T := TX3) (N := 16) hx hb hts hi3 hown hK hP 0 rfl rfl 1 (by decide) hk0 (fun _ h9 => h9) rfl dX3_hasState_6 ?_
    refine lv_icmp_ge (tgt := 16) hx hb dX3_hasState_9 (by decide) (fun c_3 => ?_) (fun c_3 => ?_)
    · have f4 : h0_laws.toInt ≤ p1.toInt := z_le rfl rfl c_3
      refine lv_iconst (v := 0) hx hb dX3_hasState_16 (by decide) ?_
      exact y_zret () hx hb hr hlocks hK hP hD hS hAe hQ rfl (Or.inl ⟨rfl, (Or.inr ⟨f2, f4⟩)⟩) (by decide) dX3_hasState_17
    · have f4 : p1.toInt < h0_laws.toInt := z_nle rfl rfl c_3
      refine lv_iconst (v := 1) hx hb dX3_hasState_12 (by decide) ?_
      refine lv_goto (tgt := 17) hx hb dX3_hasState_13 (by decide) ?_
      exact y_zret () hx hb hr hlocks hK hP hD hS hAe hQ rfl (Or.inr ⟨rfl, ⟨f2, f4⟩⟩) (by decide) dX3_hasState_17
set_option maxHeartbeats 8000000 in
set_option maxRecDepth 100000 in
theorem k_X3_isTooFar (l : Launch) (dC : Nat → ClassId) (dI : Nat → Nat → Nat) (cB cI cJ cZ cP cQ : ClassId) (sz : Nat) (p0 : Int64) : Met l yX3_isTooFar wsX3_isTooFar ({ frames := 0, cells := 0, slots := 0, locals := 0 } : Room) (zPc [.long p0] (dC, dI) (zT cB cI cJ cZ cP cQ) [] sz [] []) (va_Qi (fun (r : Int32) (u : Unit) => (r = 1 ∧ (1000000000 < p0.toInt ∨ (p0.toInt ≤ 1000000000 ∧ p0.toInt < (-1000000000)))) ∨ (r = 0 ∧ p0.toInt ≤ 1000000000 ∧ (-1000000000) ≤ p0.toInt)) (zB (dC, dI) (zT cB cI cJ cZ cP cQ) (fun u : Unit => []) [] sz) (va_A [] sz)) 0 0 (va_A [] sz) := by
  refine z_enter (cc := cX3_isTooFar) (maxL := 2) (ret := (some .boolean)) (by decide) rfl (Nat.le_of_ble_eq_true rfl) ?_
  intro p e s m below meth c A ls Q H locs hx hb hr hml hown hts hlocks hin hK hP hD hA hX hS hAe hQ hl
  have hown : s.vm.findClass RX3 = some m.cls := hown
  have hk0 := hts (.constantLong RX3 100 1000000000) (by decide +kernel)
  have hk1 := hts (.constantLong RX3 102 (-1000000000)) (by decide +kernel)
  have hl : lv_has ls 2 [(0, .long p0)] := hl
  refine lv_lload_n hx hb dX3_isTooFar_0 rfl (lv_at hl 0 rfl) ?_
  refine lv_ldc2 hx hb hown hk0 dX3_isTooFar_1 ?_
  refine W.lcmp hx hb dX3_isTooFar_4 ?_
  refine lv_if_gt (tgt := 16) hx hb dX3_isTooFar_5 (by decide) (fun c_1 => ?_) (fun c_1 => ?_)
  · have f2 : 1000000000 < p0.toInt := z_lgt rfl (by decide) c_1
    refine lv_iconst (v := 1) hx hb dX3_isTooFar_16 (by decide) ?_
    refine lv_goto (tgt := 21) hx hb dX3_isTooFar_17 (by decide) ?_
    exact y_zret () hx hb hr hlocks hK hP hD hS hAe hQ rfl (Or.inl ⟨rfl, (Or.inl f2)⟩) (by decide) dX3_isTooFar_21
  · have f2 : p0.toInt ≤ 1000000000 := z_lngt rfl (by decide) c_1
    refine lv_lload_n hx hb dX3_isTooFar_8 rfl (lv_at hl 0 rfl) ?_
    refine lv_ldc2 hx hb hown hk1 dX3_isTooFar_9 ?_
    refine W.lcmp hx hb dX3_isTooFar_12 ?_
    refine lv_if_ge (tgt := 20) hx hb dX3_isTooFar_13 (by decide) (fun c_3 => ?_) (fun c_3 => ?_)
    · have f4 : (-1000000000) ≤ p0.toInt := z_lge rfl (by decide) c_3
      refine lv_iconst (v := 0) hx hb dX3_isTooFar_20 (by decide) ?_
      exact y_zret () hx hb hr hlocks hK hP hD hS hAe hQ rfl (Or.inr ⟨rfl, ⟨f2, f4⟩⟩) (by decide) dX3_isTooFar_21
    · have f4 : p0.toInt < (-1000000000) := z_lnge rfl (by decide) c_3
      refine lv_iconst (v := 1) hx hb dX3_isTooFar_16 (by decide) ?_
      refine lv_goto (tgt := 21) hx hb dX3_isTooFar_17 (by decide) ?_
      exact y_zret () hx hb hr hlocks hK hP hD hS hAe hQ rfl (Or.inl ⟨rfl, (Or.inr ⟨f2, f4⟩)⟩) (by decide) dX3_isTooFar_21
set_option maxHeartbeats 8000000 in
set_option maxRecDepth 100000 in
theorem k_X3_leakOf (l : Launch) (dC : Nat → ClassId) (dI : Nat → Nat → Nat) (cB cI cJ cZ cP cQ : ClassId) (h0 : Nat) (h0_enter : Nat) (h0_leave : Nat) (h0_share : Nat) (h0_gift : Nat) (h0_wish : Nat) (h0_spread : Nat) (h0_leakBy : Nat) (h0_joint : Nat) (h0_part : Nat) (sz : Nat) (p1 : Int32) (h0_lines : Int32) (h0_laws : Int32) (h0_sorts : Int32) (h0_shares : Int32) (h0_parts : Int32) (h0_noise : Int32) (h0_noiseTold : Int32) (h0_leakBy_f : Nat → Int32) (e0 : 0 ≤ h0_laws.toInt) (e1 : h0_laws.toInt ≤ 6) (e2 : 0 ≤ h0_sorts.toInt) (e3 : h0_sorts.toInt ≤ 8) (e4 : 0 ≤ h0_parts.toInt) (e5 : h0_parts.toInt ≤ 120) (e6 : 0 ≤ h0_noiseTold.toInt) (e7 : h0_noiseTold.toInt ≤ 1) : Met l yX3_leakOf wsX3_leakOf ({ frames := 3, cells := 0, slots := 0, locals := 63 } : Room) (zPc [.ref h0, .int p1] (dC, dI) (zT cB cI cJ cZ cP cQ) [(h0, .inr (3, [.int h0_lines, .int h0_laws, .int h0_sorts, .int h0_shares, .int h0_parts, .int h0_noise, .int h0_noiseTold, .ref h0_enter, .ref h0_leave, .ref h0_share, .ref h0_gift, .ref h0_wish, .ref h0_spread, .ref h0_leakBy, .ref h0_joint, .ref h0_part])), (h0_leakBy, .inl (cI, 13, .inl h0_leakBy_f))] sz [(RX3, 74, yX8_isMonth, "MonthPush")] []) (va_Qi (fun (r : Int32) (u : Unit) => (r = 0 ∧ (((((p1.toInt < (1 : Int) ∨ ((1 : Int) ≤ p1.toInt ∧ (12 : Int) < p1.toInt)))) ∨ ((((1 : Int) ≤ p1.toInt ∧ p1.toInt ≤ (12 : Int))) ∧ (h0_leakBy_f p1.toNatClampNeg).toInt = (-1))))) ∨ (r = (h0_leakBy_f p1.toNatClampNeg) ∧ ((((1 : Int) ≤ p1.toInt ∧ p1.toInt ≤ (12 : Int))) ∧ ¬ (h0_leakBy_f p1.toNatClampNeg).toInt = (-1)))) (zB (dC, dI) (zT cB cI cJ cZ cP cQ) (fun u : Unit => [(h0, .inr (3, [.int h0_lines, .int h0_laws, .int h0_sorts, .int h0_shares, .int h0_parts, .int h0_noise, .int h0_noiseTold, .ref h0_enter, .ref h0_leave, .ref h0_share, .ref h0_gift, .ref h0_wish, .ref h0_spread, .ref h0_leakBy, .ref h0_joint, .ref h0_part])), (h0_leakBy, .inl (cI, 13, .inl h0_leakBy_f))]) [(h0, .inr (3, [.int h0_lines, .int h0_laws, .int h0_sorts, .int h0_shares, .int h0_parts, .int h0_noise, .int h0_noiseTold, .ref h0_enter, .ref h0_leave, .ref h0_share, .ref h0_gift, .ref h0_wish, .ref h0_spread, .ref h0_leakBy, .ref h0_joint, .ref h0_part])), (h0_leakBy, .inl (cI, 13, .inl h0_leakBy_f))] sz) (va_A [(h0, .inr (3, [.int h0_lines, .int h0_laws, .int h0_sorts, .int h0_shares, .int h0_parts, .int h0_noise, .int h0_noiseTold, .ref h0_enter, .ref h0_leave, .ref h0_share, .ref h0_gift, .ref h0_wish, .ref h0_spread, .ref h0_leakBy, .ref h0_joint, .ref h0_part])), (h0_leakBy, .inl (cI, 13, .inl h0_leakBy_f))] sz)) 0 0 (va_A [(h0, .inr (3, [.int h0_lines, .int h0_laws, .int h0_sorts, .int h0_shares, .int h0_parts, .int h0_noise, .int h0_noiseTold, .ref h0_enter, .ref h0_leave, .ref h0_share, .ref h0_gift, .ref h0_wish, .ref h0_spread, .ref h0_leakBy, .ref h0_joint, .ref h0_part])), (h0_leakBy, .inl (cI, 13, .inl h0_leakBy_f))] sz) := by
  refine z_enter (cc := cX3_leakOf) (maxL := 2) (ret := (some .int)) (by decide) rfl (Nat.le_of_ble_eq_true rfl) ?_
  intro p e s m below meth c A ls Q H locs hx hb hr hml hown hts hlocks hin hK hP hD hA hX hS hAe hQ hl
  have hown : s.vm.findClass RX3 = some m.cls := hown
  have hi3 : ∀ w ∈ wsX30, w ∈ wsX3_leakOf := fun w h => List.mem_cons_of_mem _ (List.mem_append_right _ h)
  have hk0 := hts (.fieldLink RX3 30 "MonthPush$Land" "leakBy" "[I") (by decide +kernel)
  have hl : lv_has ls 2 [(0, .ref h0), (1, .int p1)] := hl
  refine lv_aload_n hx hb dX3_leakOf_0 rfl (lv_at hl 0 rfl) ?_
  refine lv_iload_n hx hb dX3_leakOf_1 rfl (lv_at hl 1 rfl) ?_
  refine y_fini (w' := fun (u1 : Unit) => [(h0, .inr (3, [.int h0_lines, .int h0_laws, .int h0_sorts, .int h0_shares, .int h0_parts, .int h0_noise, .int h0_noiseTold, .ref h0_enter, .ref h0_leave, .ref h0_share, .ref h0_gift, .ref h0_wish, .ref h0_spread, .ref h0_leakBy, .ref h0_joint, .ref h0_part])), (h0_leakBy, .inl (cI, 13, .inl h0_leakBy_f))]) (va_runV (As := [.int p1]) (rest := []) ⟨hx, hb, hml, hown, hts⟩ (k_X3_hasLeak l dC dI cB cI cJ cZ cP cQ h0 h0_enter h0_leave h0_share h0_gift h0_wish h0_spread h0_leakBy h0_joint h0_part H.size p1 h0_lines h0_laws h0_sorts h0_shares h0_parts h0_noise h0_noiseTold h0_leakBy_f (show 0 ≤ h0_laws.toInt from by omega) (show h0_laws.toInt ≤ 6 from by omega) (show 0 ≤ h0_sorts.toInt from by omega) (show h0_sorts.toInt ≤ 8 from by omega) (show 0 ≤ h0_parts.toInt from by omega) (show h0_parts.toInt ≤ 120 from by omega) (show 0 ≤ h0_noiseTold.toInt from by omega) (show h0_noiseTold.toInt ≤ 1 from by omega)) (cwV 1 hts gX3_leakOf_X3_hasLeak rfl rfl rfl (by decide +kernel) ⟨Nat.le_of_ble_eq_true rfl, Nat.le_of_ble_eq_true rfl⟩) (z_pV (ci := 3) hK hP hD (zX_sub hX (by decide +kernel) (by decide +kernel)) [0, 1] (by decide) rfl rfl 0 rfl) rfl rfl hl.1 rfl (lv_room (Nat.le_of_ble_eq_true rfl)) dX3_leakOf_2 ⟨Nat.le_of_ble_eq_true rfl, Nat.le_of_ble_eq_true rfl⟩) hP hD hS hA [0, 1] [] [0, 1] rfl rfl (by decide) (by decide) (fun _ => rfl) (by decide) (fun r2 u1 H locs hp3 hP hD hS => ?_)
  have hP : va_P (dC, dI) vwCl [(h0, .inr (3, [.int h0_lines, .int h0_laws, .int h0_sorts, .int h0_shares, .int h0_parts, .int h0_noise, .int h0_noiseTold, .ref h0_enter, .ref h0_leave, .ref h0_share, .ref h0_gift, .ref h0_wish, .ref h0_spread, .ref h0_leakBy, .ref h0_joint, .ref h0_part])), (h0_leakBy, .inl (cI, 13, .inl h0_leakBy_f))] H := hP
  have hD : va_D A [(h0, .inr (3, [.int h0_lines, .int h0_laws, .int h0_sorts, .int h0_shares, .int h0_parts, .int h0_noise, .int h0_noiseTold, .ref h0_enter, .ref h0_leave, .ref h0_share, .ref h0_gift, .ref h0_wish, .ref h0_spread, .ref h0_leakBy, .ref h0_joint, .ref h0_part])), (h0_leakBy, .inl (cI, 13, .inl h0_leakBy_f))] := hD
  have hp3 : (r2 = 0 ∧ ((((p1.toInt < (1 : Int) ∨ ((1 : Int) ≤ p1.toInt ∧ (12 : Int) < p1.toInt)))) ∨ ((((1 : Int) ≤ p1.toInt ∧ p1.toInt ≤ (12 : Int))) ∧ (h0_leakBy_f p1.toNatClampNeg).toInt = (-1)))) ∨ (r2 = 1 ∧ (((1 : Int) ≤ p1.toInt ∧ p1.toInt ≤ (12 : Int))) ∧ ¬ (h0_leakBy_f p1.toNatClampNeg).toInt = (-1)) := hp3
  rcases hp3 with f4 | f5
  · obtain ⟨rfl, f4⟩ := f4
    refine lv_if_eq (tgt := 17) hx hb dX3_leakOf_5 (by decide) (fun _ => ?_) (fun c => absurd (by decide) c)
    refine lv_iconst (v := 0) hx hb dX3_leakOf_17 (by decide) ?_
    exact y_iret () hx hb hr hlocks hK hP hD hS hAe hQ rfl (Or.inl ⟨rfl, f4⟩) dX3_leakOf_18
  · obtain ⟨rfl, f5⟩ := f5
    refine lv_if_eq (tgt := 17) hx hb dX3_leakOf_5 (by decide) (fun c => absurd c (by decide)) (fun _ => ?_)
    refine lv_aload_n hx hb dX3_leakOf_8 rfl (lv_at hl 0 rfl) ?_
    refine va_get (D := (dC, dI)) (ci := 3) (v := .ref h0_leakBy) (C := RX3) (T := TX3) (N := 16) hx hb hts hi3 hown hK hP 0 rfl rfl 13 (by decide) hk0 (fun _ h9 => h9) rfl dX3_leakOf_9 ?_
    refine lv_iload_n hx hb dX3_leakOf_12 rfl (lv_at hl 1 rfl) ?_
    refine va_iald hx hb hK hP 1 1 rfl rfl (z_in rfl (by omega) (by omega)) dX3_leakOf_13 ?_
    refine lv_goto (tgt := 18) hx hb dX3_leakOf_14 (by decide) ?_
    exact y_iret () hx hb hr hlocks hK hP hD hS hAe hQ rfl (Or.inr ⟨rfl, f5⟩) dX3_leakOf_18
set_option maxHeartbeats 8000000 in
set_option maxRecDepth 100000 in
theorem k_X3_partAt (l : Launch) (dC : Nat → ClassId) (dI : Nat → Nat → Nat) (cB cI cJ cZ cP cQ : ClassId) (h0 : Nat) (h0_enter : Nat) (h0_leave : Nat) (h0_share : Nat) (h0_gift : Nat) (h0_wish : Nat) (h0_spread : Nat) (h0_leakBy : Nat) (h0_joint : Nat) (h0_part : Nat) (sz : Nat) (p1 : Int32) (p2 : Int32) (p3 : Int32) (p4 : Int32) (p5 : Int32) (h0_lines : Int32) (h0_laws : Int32) (h0_sorts : Int32) (h0_shares : Int32) (h0_parts : Int32) (h0_noise : Int32) (h0_noiseTold : Int32) (h0_enter_f : Nat → Int32) (h0_leave_f : Nat → Int32) (e0 : 0 ≤ h0_laws.toInt) (e1 : h0_laws.toInt ≤ 6) (e2 : 0 ≤ h0_sorts.toInt) (e3 : h0_sorts.toInt ≤ 8) (e4 : 0 ≤ h0_parts.toInt) (e5 : h0_parts.toInt ≤ 120) (e6 : 0 ≤ h0_noiseTold.toInt) (e7 : h0_noiseTold.toInt ≤ 1) (e8 : 0 ≤ p5.toInt) (e9 : p5.toInt ≤ 5) : Met l yX3_partAt wsX3_partAt ({ frames := 2, cells := 0, slots := 0, locals := 44 } : Room) (zPc [.ref h0, .int p1, .int p2, .int p3, .int p4, .int p5] (dC, dI) (zT cB cI cJ cZ cP cQ) [(h0, .inr (3, [.int h0_lines, .int h0_laws, .int h0_sorts, .int h0_shares, .int h0_parts, .int h0_noise, .int h0_noiseTold, .ref h0_enter, .ref h0_leave, .ref h0_share, .ref h0_gift, .ref h0_wish, .ref h0_spread, .ref h0_leakBy, .ref h0_joint, .ref h0_part])), (h0_enter, .inl (cI, 6, .inl h0_enter_f)), (h0_leave, .inl (cI, 6, .inl h0_leave_f))] sz [] []) (va_Qi (fun (r : Int32) (u : Unit) => True) (zB (dC, dI) (zT cB cI cJ cZ cP cQ) (fun u : Unit => [(h0, .inr (3, [.int h0_lines, .int h0_laws, .int h0_sorts, .int h0_shares, .int h0_parts, .int h0_noise, .int h0_noiseTold, .ref h0_enter, .ref h0_leave, .ref h0_share, .ref h0_gift, .ref h0_wish, .ref h0_spread, .ref h0_leakBy, .ref h0_joint, .ref h0_part])), (h0_enter, .inl (cI, 6, .inl h0_enter_f)), (h0_leave, .inl (cI, 6, .inl h0_leave_f))]) [(h0, .inr (3, [.int h0_lines, .int h0_laws, .int h0_sorts, .int h0_shares, .int h0_parts, .int h0_noise, .int h0_noiseTold, .ref h0_enter, .ref h0_leave, .ref h0_share, .ref h0_gift, .ref h0_wish, .ref h0_spread, .ref h0_leakBy, .ref h0_joint, .ref h0_part])), (h0_enter, .inl (cI, 6, .inl h0_enter_f)), (h0_leave, .inl (cI, 6, .inl h0_leave_f))] sz) (va_A [(h0, .inr (3, [.int h0_lines, .int h0_laws, .int h0_sorts, .int h0_shares, .int h0_parts, .int h0_noise, .int h0_noiseTold, .ref h0_enter, .ref h0_leave, .ref h0_share, .ref h0_gift, .ref h0_wish, .ref h0_spread, .ref h0_leakBy, .ref h0_joint, .ref h0_part])), (h0_enter, .inl (cI, 6, .inl h0_enter_f)), (h0_leave, .inl (cI, 6, .inl h0_leave_f))] sz)) 0 0 (va_A [(h0, .inr (3, [.int h0_lines, .int h0_laws, .int h0_sorts, .int h0_shares, .int h0_parts, .int h0_noise, .int h0_noiseTold, .ref h0_enter, .ref h0_leave, .ref h0_share, .ref h0_gift, .ref h0_wish, .ref h0_spread, .ref h0_leakBy, .ref h0_joint, .ref h0_part])), (h0_enter, .inl (cI, 6, .inl h0_enter_f)), (h0_leave, .inl (cI, 6, .inl h0_leave_f))] sz) := by
  refine z_enter (cc := cX3_partAt) (maxL := 6) (ret := (some .int)) (by decide) rfl (Nat.le_of_ble_eq_true rfl) ?_
  intro p e s m below meth c A ls Q H locs hx hb hr hml hown hts hlocks hin hK hP hD hA hX hS hAe hQ hl
  have hown : s.vm.findClass RX3 = some m.cls := hown
  have hl : lv_has ls 6 [(0, .ref h0), (1, .int p1), (2, .int p2), (3, .int p3), (4, .int p4), (5, .int p5)] := hl
  refine lv_iload_n hx hb dX3_partAt_0 rfl (lv_at hl 1 rfl) ?_
  rcases (show p1.toInt = 1000 ∨ p1.toInt = 1001 ∨ p1.toInt = 1002 ∨ p1.toInt = 1003 ∨ p1.toInt = 1004 ∨ (p1.toInt < 1000 ∨ 1004 < p1.toInt) by omega) with f1 | f1 | f1 | f1 | f1 | f1
  · refine lv_tableIn (off := 35) (tgt := 36) hx hb dX3_partAt_1 (by rw [f1]; decide) (by rw [f1]; decide) (by rw [f1]; decide) (by decide) ?_
    refine lv_iload_n hx hb dX3_partAt_36 rfl (lv_at hl 2 rfl) ?_
    exact y_iret () hx hb hr hlocks hK hP hD hS hAe hQ rfl trivial dX3_partAt_37
  · refine lv_tableIn (off := 37) (tgt := 38) hx hb dX3_partAt_1 (by rw [f1]; decide) (by rw [f1]; decide) (by rw [f1]; decide) (by decide) ?_
    refine lv_iload_n hx hb dX3_partAt_38 rfl (lv_at hl 3 rfl) ?_
    exact y_iret () hx hb hr hlocks hK hP hD hS hAe hQ rfl trivial dX3_partAt_39
  · refine lv_tableIn (off := 39) (tgt := 40) hx hb dX3_partAt_1 (by rw [f1]; decide) (by rw [f1]; decide) (by rw [f1]; decide) (by decide) ?_
    refine lv_iload hx hb dX3_partAt_40 (lv_at hl 4 rfl) ?_
    exact y_iret () hx hb hr hlocks hK hP hD hS hAe hQ rfl trivial dX3_partAt_42
  · refine lv_tableIn (off := 42) (tgt := 43) hx hb dX3_partAt_1 (by rw [f1]; decide) (by rw [f1]; decide) (by rw [f1]; decide) (by decide) ?_
    refine lv_aload_n hx hb dX3_partAt_43 rfl (lv_at hl 0 rfl) ?_
    refine lv_iload hx hb dX3_partAt_44 (lv_at hl 5 rfl) ?_
    refine lv_iload hx hb dX3_partAt_46 (lv_at hl 4 rfl) ?_
    refine y_fini (w' := fun (u2 : Unit) => [(h0, .inr (3, [.int h0_lines, .int h0_laws, .int h0_sorts, .int h0_shares, .int h0_parts, .int h0_noise, .int h0_noiseTold, .ref h0_enter, .ref h0_leave, .ref h0_share, .ref h0_gift, .ref h0_wish, .ref h0_spread, .ref h0_leakBy, .ref h0_joint, .ref h0_part])), (h0_enter, .inl (cI, 6, .inl h0_enter_f)), (h0_leave, .inl (cI, 6, .inl h0_leave_f))]) (va_runV (As := [.int p5, .int p4]) (rest := []) ⟨hx, hb, hml, hown, hts⟩ (k_X3_oldAt l dC dI cB cI cJ cZ cP cQ h0 h0_enter h0_leave h0_share h0_gift h0_wish h0_spread h0_leakBy h0_joint h0_part H.size p5 p4 h0_lines h0_laws h0_sorts h0_shares h0_parts h0_noise h0_noiseTold h0_enter_f (show 0 ≤ h0_laws.toInt from by omega) (show h0_laws.toInt ≤ 6 from by omega) (show 0 ≤ h0_sorts.toInt from by omega) (show h0_sorts.toInt ≤ 8 from by omega) (show 0 ≤ h0_parts.toInt from by omega) (show h0_parts.toInt ≤ 120 from by omega) (show 0 ≤ h0_noiseTold.toInt from by omega) (show h0_noiseTold.toInt ≤ 1 from by omega) (show 0 ≤ p5.toInt from by omega) (show p5.toInt ≤ 5 from by omega)) (cwV 2 hts gX3_partAt_X3_oldAt rfl rfl rfl (by decide +kernel) ⟨Nat.le_of_ble_eq_true rfl, Nat.le_of_ble_eq_true rfl⟩) (z_pV (ci := 3) hK hP hD zX_nil [0, 1] (by decide) rfl rfl 0 rfl) rfl rfl hl.1 rfl (lv_room (Nat.le_of_ble_eq_true rfl)) dX3_partAt_48 ⟨Nat.le_of_ble_eq_true rfl, Nat.le_of_ble_eq_true rfl⟩) hP hD hS hA [0, 1] [2] [1, 2, 0] rfl rfl (by decide) (by decide) (fun _ => rfl) (by decide) (fun r3 u2 H locs hp4 hP hD hS => ?_)
    have hP : va_P (dC, dI) vwCl [(h0, .inr (3, [.int h0_lines, .int h0_laws, .int h0_sorts, .int h0_shares, .int h0_parts, .int h0_noise, .int h0_noiseTold, .ref h0_enter, .ref h0_leave, .ref h0_share, .ref h0_gift, .ref h0_wish, .ref h0_spread, .ref h0_leakBy, .ref h0_joint, .ref h0_part])), (h0_enter, .inl (cI, 6, .inl h0_enter_f)), (h0_leave, .inl (cI, 6, .inl h0_leave_f))] H := hP
    have hD : va_D A [(h0, .inr (3, [.int h0_lines, .int h0_laws, .int h0_sorts, .int h0_shares, .int h0_parts, .int h0_noise, .int h0_noiseTold, .ref h0_enter, .ref h0_leave, .ref h0_share, .ref h0_gift, .ref h0_wish, .ref h0_spread, .ref h0_leakBy, .ref h0_joint, .ref h0_part])), (h0_enter, .inl (cI, 6, .inl h0_enter_f)), (h0_leave, .inl (cI, 6, .inl h0_leave_f))] := hD
    have hp4 : True := hp4
    exact y_iret () hx hb hr hlocks hK hP hD hS hAe hQ rfl trivial dX3_partAt_51
  · refine lv_tableIn (off := 51) (tgt := 52) hx hb dX3_partAt_1 (by rw [f1]; decide) (by rw [f1]; decide) (by rw [f1]; decide) (by decide) ?_
    refine lv_aload_n hx hb dX3_partAt_52 rfl (lv_at hl 0 rfl) ?_
    refine lv_iload hx hb dX3_partAt_53 (lv_at hl 5 rfl) ?_
    refine lv_iload hx hb dX3_partAt_55 (lv_at hl 4 rfl) ?_
    refine y_fini (w' := fun (u6 : Unit) => [(h0, .inr (3, [.int h0_lines, .int h0_laws, .int h0_sorts, .int h0_shares, .int h0_parts, .int h0_noise, .int h0_noiseTold, .ref h0_enter, .ref h0_leave, .ref h0_share, .ref h0_gift, .ref h0_wish, .ref h0_spread, .ref h0_leakBy, .ref h0_joint, .ref h0_part])), (h0_enter, .inl (cI, 6, .inl h0_enter_f)), (h0_leave, .inl (cI, 6, .inl h0_leave_f))]) (va_runV (As := [.int p5, .int p4]) (rest := []) ⟨hx, hb, hml, hown, hts⟩ (k_X3_forcedAt l dC dI cB cI cJ cZ cP cQ h0 h0_enter h0_leave h0_share h0_gift h0_wish h0_spread h0_leakBy h0_joint h0_part H.size p5 p4 h0_lines h0_laws h0_sorts h0_shares h0_parts h0_noise h0_noiseTold h0_enter_f h0_leave_f (show 0 ≤ h0_laws.toInt from by omega) (show h0_laws.toInt ≤ 6 from by omega) (show 0 ≤ h0_sorts.toInt from by omega) (show h0_sorts.toInt ≤ 8 from by omega) (show 0 ≤ h0_parts.toInt from by omega) (show h0_parts.toInt ≤ 120 from by omega) (show 0 ≤ h0_noiseTold.toInt from by omega) (show h0_noiseTold.toInt ≤ 1 from by omega) (show 0 ≤ p5.toInt from by omega) (show p5.toInt ≤ 5 from by omega)) (cwV 2 hts gX3_partAt_X3_forcedAt rfl rfl rfl (by decide +kernel) ⟨Nat.le_of_ble_eq_true rfl, Nat.le_of_ble_eq_true rfl⟩) (z_pV (ci := 3) hK hP hD zX_nil [0, 1, 2] (by decide) rfl rfl 0 rfl) rfl rfl hl.1 rfl (lv_room (Nat.le_of_ble_eq_true rfl)) dX3_partAt_57 ⟨Nat.le_of_ble_eq_true rfl, Nat.le_of_ble_eq_true rfl⟩) hP hD hS hA [0, 1, 2] [] [0, 1, 2] rfl rfl (by decide) (by decide) (fun _ => rfl) (by decide) (fun r7 u6 H locs hp8 hP hD hS => ?_)
    have hP : va_P (dC, dI) vwCl [(h0, .inr (3, [.int h0_lines, .int h0_laws, .int h0_sorts, .int h0_shares, .int h0_parts, .int h0_noise, .int h0_noiseTold, .ref h0_enter, .ref h0_leave, .ref h0_share, .ref h0_gift, .ref h0_wish, .ref h0_spread, .ref h0_leakBy, .ref h0_joint, .ref h0_part])), (h0_enter, .inl (cI, 6, .inl h0_enter_f)), (h0_leave, .inl (cI, 6, .inl h0_leave_f))] H := hP
    have hD : va_D A [(h0, .inr (3, [.int h0_lines, .int h0_laws, .int h0_sorts, .int h0_shares, .int h0_parts, .int h0_noise, .int h0_noiseTold, .ref h0_enter, .ref h0_leave, .ref h0_share, .ref h0_gift, .ref h0_wish, .ref h0_spread, .ref h0_leakBy, .ref h0_joint, .ref h0_part])), (h0_enter, .inl (cI, 6, .inl h0_enter_f)), (h0_leave, .inl (cI, 6, .inl h0_leave_f))] := hD
    have hp8 : True := hp8
    exact y_iret () hx hb hr hlocks hK hP hD hS hAe hQ rfl trivial dX3_partAt_60
  · refine lv_tableOut (tgt := 61) hx hb dX3_partAt_1 f1 (by decide) ?_
    refine lv_iload_n hx hb dX3_partAt_61 rfl (lv_at hl 1 rfl) ?_
    exact y_iret () hx hb hr hlocks hK hP hD hS hAe hQ rfl trivial dX3_partAt_62
set_option maxHeartbeats 8000000 in
set_option maxRecDepth 100000 in
theorem k_X8_cutToWage (l : Launch) (dC : Nat → ClassId) (dI : Nat → Nat → Nat) (cB cI cJ cZ cP cQ : ClassId) (sz : Nat) (p0 : Int64) : Met l yX8_cutToWage wsX8_cutToWage ({ frames := 1, cells := 0, slots := 0, locals := 40 } : Room) (zPc [.long p0] (dC, dI) (zT cB cI cJ cZ cP cQ) [] sz [] []) (va_Qi (fun (r : Int32) (u : Unit) => 0 ≤ r.toInt ∧ r.toInt ≤ 9999) (zB (dC, dI) (zT cB cI cJ cZ cP cQ) (fun u : Unit => []) [] sz) (va_A [] sz)) 0 0 (va_A [] sz) := by
  refine z_enter (cc := cX8_cutToWage) (maxL := 2) (ret := (some .int)) (by decide) rfl (Nat.le_of_ble_eq_true rfl) ?_
  intro p e s m below meth c A ls Q H locs hx hb hr hml hown hts hlocks hin hK hP hD hA hX hS hAe hQ hl
  have hown : s.vm.findClass RX8 = some m.cls := hown
  have hk0 := hts (.constantLong RX8 187 9999) (by decide +kernel)
  have hk1 := hts (.methodLink RX8 413 Lib.MathLoose.min_long.x) (by decide +kernel)
  have hk2 := hts (.static Lib.MathLoose.min_long.x) (by decide +kernel)
  have hk3 := hts (.initialized "java/lang/Math") (by decide +kernel)
  have hk4 := hts (.code Lib.MathLoose.min_long.x Lib.MathLoose.min_long.code 4 (some .long)) (by decide +kernel)
  have hk5 := hts (.methodLink RX8 415 Lib.MathLoose.max_long.x) (by decide +kernel)
  have hk6 := hts (.static Lib.MathLoose.max_long.x) (by decide +kernel)
  have hk7 := hts (.code Lib.MathLoose.max_long.x Lib.MathLoose.max_long.code 4 (some .long)) (by decide +kernel)
  have hl : lv_has ls 2 [(0, .long p0)] := hl
  refine lv_lconst (v := 0) hx hb dX8_cutToWage_0 (by decide) ?_
  refine lv_ldc2 hx hb hown hk0 dX8_cutToWage_1 ?_
  refine lv_lload_n hx hb dX8_cutToWage_4 rfl (lv_at hl 0 rfl) ?_
  refine va_mmin_long hx hb (by rw [hml]; exact hl.1.symm) hown hk1 hk2 hk3 hk4 (Nat.le_of_ble_eq_true rfl) (lv_room (Nat.le_of_ble_eq_true rfl)) (Nat.le_of_ble_eq_true rfl) (Nat.le_of_ble_eq_true rfl) dX8_cutToWage_5 ?_
  refine lv_topl (fun r1 h2 => ?_)
  have f3 : r1.toInt ≤ 9999 ∧ r1.toInt ≤ p0.toInt ∧ (r1.toInt = 9999 ∨ r1.toInt = p0.toInt) := z_mminl h2 (by decide) rfl
  refine va_mmax_long hx hb (by rw [hml]; exact hl.1.symm) hown hk5 hk6 hk3 hk7 (Nat.le_of_ble_eq_true rfl) (lv_room (Nat.le_of_ble_eq_true rfl)) (Nat.le_of_ble_eq_true rfl) (Nat.le_of_ble_eq_true rfl) dX8_cutToWage_8 ?_
  refine lv_topl (fun r4 h5 => ?_)
  have f6 : 0 ≤ r4.toInt ∧ r1.toInt ≤ r4.toInt ∧ (r4.toInt = 0 ∨ r4.toInt = r1.toInt) := z_mmaxl h5 (by decide) rfl
  refine lv_l2i hx hb dX8_cutToWage_11 rfl ?_
  refine lv_topi (fun r7 h8 => ?_)
  have f9 : r7.toInt = r4.toInt := z_l2i h8 rfl (by omega) (by omega)
  exact y_iret () hx hb hr hlocks hK hP hD hS hAe hQ rfl ⟨by omega, by omega⟩ dX8_cutToWage_12
set_option maxHeartbeats 8000000 in
set_option maxRecDepth 100000 in
theorem k_X3_payFor (l : Launch) (dC : Nat → ClassId) (dI : Nat → Nat → Nat) (cB cI cJ cZ cP cQ : ClassId) (h0 : Nat) (h0_enter : Nat) (h0_leave : Nat) (h0_share : Nat) (h0_gift : Nat) (h0_wish : Nat) (h0_spread : Nat) (h0_leakBy : Nat) (h0_joint : Nat) (h0_part : Nat) (sz : Nat) (p1 : Int32) (p2 : Int32) (p3 : Int32) (p4 : Int32) (h0_lines : Int32) (h0_laws : Int32) (h0_sorts : Int32) (h0_shares : Int32) (h0_parts : Int32) (h0_noise : Int32) (h0_noiseTold : Int32) (h0_enter_f : Nat → Int32) (h0_leave_f : Nat → Int32) (h0_joint_f : Nat → Int32) (h0_part_f : Nat → Int32) (e0 : 0 ≤ h0_laws.toInt) (e1 : h0_laws.toInt ≤ 6) (e2 : 0 ≤ h0_sorts.toInt) (e3 : h0_sorts.toInt ≤ 8) (e4 : 0 ≤ h0_parts.toInt) (e5 : h0_parts.toInt ≤ 120) (e6 : 0 ≤ h0_noiseTold.toInt) (e7 : h0_noiseTold.toInt ≤ 1) (e8 : 0 ≤ p4.toInt) (e9 : p4.toInt ≤ 5) : Met l yX3_payFor wsX3_payFor ({ frames := 3, cells := 0, slots := 0, locals := 69 } : Room) (zPc [.ref h0, .int p1, .int p2, .int p3, .int p4] (dC, dI) (zT cB cI cJ cZ cP cQ) [(h0, .inr (3, [.int h0_lines, .int h0_laws, .int h0_sorts, .int h0_shares, .int h0_parts, .int h0_noise, .int h0_noiseTold, .ref h0_enter, .ref h0_leave, .ref h0_share, .ref h0_gift, .ref h0_wish, .ref h0_spread, .ref h0_leakBy, .ref h0_joint, .ref h0_part])), (h0_enter, .inl (cI, 6, .inl h0_enter_f)), (h0_leave, .inl (cI, 6, .inl h0_leave_f)), (h0_joint, .inl (cI, 120, .inl h0_joint_f)), (h0_part, .inl (cI, 120, .inl h0_part_f))] sz [(RX3, 93, yX8_cutToWage, "MonthPush")] []) (va_Qi (fun (r : Int32) (u : Unit) => (r = 0) ∨ (0 ≤ r.toInt ∧ r.toInt ≤ 9999)) (zB (dC, dI) (zT cB cI cJ cZ cP cQ) (fun u : Unit => [(h0, .inr (3, [.int h0_lines, .int h0_laws, .int h0_sorts, .int h0_shares, .int h0_parts, .int h0_noise, .int h0_noiseTold, .ref h0_enter, .ref h0_leave, .ref h0_share, .ref h0_gift, .ref h0_wish, .ref h0_spread, .ref h0_leakBy, .ref h0_joint, .ref h0_part])), (h0_enter, .inl (cI, 6, .inl h0_enter_f)), (h0_leave, .inl (cI, 6, .inl h0_leave_f)), (h0_joint, .inl (cI, 120, .inl h0_joint_f)), (h0_part, .inl (cI, 120, .inl h0_part_f))]) [(h0, .inr (3, [.int h0_lines, .int h0_laws, .int h0_sorts, .int h0_shares, .int h0_parts, .int h0_noise, .int h0_noiseTold, .ref h0_enter, .ref h0_leave, .ref h0_share, .ref h0_gift, .ref h0_wish, .ref h0_spread, .ref h0_leakBy, .ref h0_joint, .ref h0_part])), (h0_enter, .inl (cI, 6, .inl h0_enter_f)), (h0_leave, .inl (cI, 6, .inl h0_leave_f)), (h0_joint, .inl (cI, 120, .inl h0_joint_f)), (h0_part, .inl (cI, 120, .inl h0_part_f))] sz) (va_A [(h0, .inr (3, [.int h0_lines, .int h0_laws, .int h0_sorts, .int h0_shares, .int h0_parts, .int h0_noise, .int h0_noiseTold, .ref h0_enter, .ref h0_leave, .ref h0_share, .ref h0_gift, .ref h0_wish, .ref h0_spread, .ref h0_leakBy, .ref h0_joint, .ref h0_part])), (h0_enter, .inl (cI, 6, .inl h0_enter_f)), (h0_leave, .inl (cI, 6, .inl h0_leave_f)), (h0_joint, .inl (cI, 120, .inl h0_joint_f)), (h0_part, .inl (cI, 120, .inl h0_part_f))] sz)) 0 0 (va_A [(h0, .inr (3, [.int h0_lines, .int h0_laws, .int h0_sorts, .int h0_shares, .int h0_parts, .int h0_noise, .int h0_noiseTold, .ref h0_enter, .ref h0_leave, .ref h0_share, .ref h0_gift, .ref h0_wish, .ref h0_spread, .ref h0_leakBy, .ref h0_joint, .ref h0_part])), (h0_enter, .inl (cI, 6, .inl h0_enter_f)), (h0_leave, .inl (cI, 6, .inl h0_leave_f)), (h0_joint, .inl (cI, 120, .inl h0_joint_f)), (h0_part, .inl (cI, 120, .inl h0_part_f))] sz) := by
  refine z_enter (cc := cX3_payFor) (maxL := 13) (ret := (some .int)) (by decide) rfl (Nat.le_of_ble_eq_true rfl) ?_
  intro p e s m below meth c A ls Q H locs hx hb hr hml hown hts hlocks hin hK hP hD hA hX hS hAe hQ hl
  have hown : s.vm.findClass RX3 = some m.cls := hown
  have hi3 : ∀ w ∈ wsX30, w ∈ wsX3_payFor := fun w h => List.mem_cons_of_mem _ (List.mem_append_right _ h)
  have hk0 := hts (.fieldLink RX3 58 "MonthPush$Land" "parts" "I") (by decide +kernel)
  have hk1 := hts (.initialized RX8) (by decide +kernel)
  have hk2 := hts (.static yX8_cutToWage) (by decide +kernel)
  have hk3 := hts (.fieldLink RX3 36 "MonthPush$Land" "part" "[I") (by decide +kernel)
  have hk4 := hts (.fieldLink RX3 33 "MonthPush$Land" "joint" "[I") (by decide +kernel)
  have hl : lv_has ls 13 [(0, .ref h0), (1, .int p1), (2, .int p2), (3, .int p3), (4, .int p4)] := hl
  refine lv_lconst (v := 0) hx hb dX3_payFor_0 (by decide) ?_
  refine lv_lstore (lv' := [(5, .long 0), (0, .ref h0), (1, .int p1), (2, .int p2), (3, .int p3), (4, .int p4)]) hx hb dX3_payFor_1 hl (by decide) rfl (fun ls hl => ?_)
  refine lv_lconst (v := 0) hx hb dX3_payFor_3 (by decide) ?_
  refine lv_lstore (lv' := [(7, .long 0), (5, .long 0), (0, .ref h0), (1, .int p1), (2, .int p2), (3, .int p3), (4, .int p4)]) hx hb dX3_payFor_4 hl (by decide) rfl (fun ls hl => ?_)
  refine lv_iconst (v := 1) hx hb dX3_payFor_6 (by decide) ?_
  refine lv_istore (lv' := [(9, .int 1), (7, .long 0), (5, .long 0), (0, .ref h0), (1, .int p1), (2, .int p2), (3, .int p3), (4, .int p4)]) hx hb dX3_payFor_7 hl (by decide) rfl (fun ls hl => ?_)
  refine lv_iconst (v := 0) hx hb dX3_payFor_9 (by decide) ?_
  refine lv_istore (lv' := [(10, .int 0), (9, .int 1), (7, .long 0), (5, .long 0), (0, .ref h0), (1, .int p1), (2, .int p2), (3, .int p3), (4, .int p4)]) hx hb dX3_payFor_10 hl (by decide) rfl (fun ls hl => ?_)
  have hlp5 : ∀ (n : Nat) (x1 : Int32) (x2 : Int32) (x3 : Int64) (x4 : Int64), h0_parts.toInt - x1.toInt < (n : Int) → 0 ≤ x1.toInt → x1.toInt ≤ h0_parts.toInt → ∀ (H : Heap) (locs : List Loc), va_P (dC, dI) vwCl [(h0, .inr (3, [.int h0_lines, .int h0_laws, .int h0_sorts, .int h0_shares, .int h0_parts, .int h0_noise, .int h0_noiseTold, .ref h0_enter, .ref h0_leave, .ref h0_share, .ref h0_gift, .ref h0_wish, .ref h0_spread, .ref h0_leakBy, .ref h0_joint, .ref h0_part])), (h0_enter, .inl (cI, 6, .inl h0_enter_f)), (h0_leave, .inl (cI, 6, .inl h0_leave_f)), (h0_joint, .inl (cI, 120, .inl h0_joint_f)), (h0_part, .inl (cI, 120, .inl h0_part_f))] H → va_D A [(h0, .inr (3, [.int h0_lines, .int h0_laws, .int h0_sorts, .int h0_shares, .int h0_parts, .int h0_noise, .int h0_noiseTold, .ref h0_enter, .ref h0_leave, .ref h0_share, .ref h0_gift, .ref h0_wish, .ref h0_spread, .ref h0_leakBy, .ref h0_joint, .ref h0_part])), (h0_enter, .inl (cI, 6, .inl h0_enter_f)), (h0_leave, .inl (cI, 6, .inl h0_leave_f)), (h0_joint, .inl (cI, 120, .inl h0_joint_f)), (h0_part, .inl (cI, 120, .inl h0_part_f))] → va_S A s.heap H locs → ∀ (ls : Array Slot), lv_has ls 13 [(10, .int x1), (9, .int x2), (7, .long x3), (5, .long x4), (0, .ref h0), (1, .int p1), (2, .int p2), (3, .int p3), (4, .int p4)] → W p l e ({ frames := 3, cells := 0, slots := 0, locals := 69 } : Room) s m ([.ref h0, .int p1, .int p2, .int p3, .int p4] : List Value).toArray below meth c H locs 0 0 Q (F0 m 12 ls []) := by
    intro n
    induction n with
    | zero =>
      intro x1 x2 x3 x4 hm8 k6 k7
      exact absurd hm8 (by omega)
    | succ n ih9 =>
      intro x1 x2 x3 x4 hm8 k6 k7 H locs hP hD hS ls hl
      refine lv_iload hx hb dX3_payFor_12 (lv_at hl 0 rfl) ?_
      refine lv_aload_n hx hb dX3_payFor_14 rfl (lv_at hl 4 rfl) ?_
      refine va_get (D := (dC, dI)) (ci := 3) (v := .int h0_parts) (C := RX3) (T := TX3) (N := 16) hx hb hts hi3 hown hK hP 0 rfl rfl 4 (by decide) hk0 (fun _ h9 => h9) rfl dX3_payFor_15 ?_
      refine lv_icmp_ge (tgt := 148) hx hb dX3_payFor_18 (by decide) (fun c_10 => ?_) (fun c_10 => ?_)
      · have f11 : h0_parts.toInt ≤ x1.toInt := z_le rfl rfl c_10
        refine lv_lload hx hb dX3_payFor_148 (lv_at hl 3 rfl) ?_
        refine lv_iload hx hb dX3_payFor_150 (lv_at hl 1 rfl) ?_
        refine lv_i2l hx hb dX3_payFor_152 rfl ?_
        have f12 : -2147483648 ≤ x2.toInt ∧ x2.toInt < 2147483648 := z_rngI rfl
        refine lv_topl (fun r13 h14 => ?_)
        have f15 : r13.toInt = x2.toInt := z_i2lT h14 rfl
        refine lv_lload hx hb dX3_payFor_153 (lv_at hl 2 rfl) ?_
        refine lv_lmul hx hb dX3_payFor_155 ?_
        refine lv_topl (fun r16 _ => ?_)
        refine lv_ladd hx hb dX3_payFor_156 ?_
        refine lv_topl (fun r17 _ => ?_)
        refine lv_lstore (lv' := [(5, .long r17), (10, .int x1), (9, .int x2), (7, .long x3), (0, .ref h0), (1, .int p1), (2, .int p2), (3, .int p3), (4, .int p4)]) hx hb dX3_payFor_157 hl (by decide) rfl (fun ls hl => ?_)
        refine lv_lload hx hb dX3_payFor_159 (lv_at hl 0 rfl) ?_
        refine y_fini (w' := fun (u18 : Unit) => [(h0, .inr (3, [.int h0_lines, .int h0_laws, .int h0_sorts, .int h0_shares, .int h0_parts, .int h0_noise, .int h0_noiseTold, .ref h0_enter, .ref h0_leave, .ref h0_share, .ref h0_gift, .ref h0_wish, .ref h0_spread, .ref h0_leakBy, .ref h0_joint, .ref h0_part])), (h0_enter, .inl (cI, 6, .inl h0_enter_f)), (h0_leave, .inl (cI, 6, .inl h0_leave_f)), (h0_joint, .inl (cI, 120, .inl h0_joint_f)), (h0_part, .inl (cI, 120, .inl h0_part_f))]) (va_runS (As := [.long r17]) (rest := []) ⟨hx, hb, hml, hown, hts⟩ (k_X3_isTooFar l dC dI cB cI cJ cZ cP cQ H.size r17) (va_cwS 1 hts gX3_payFor_X3_isTooFar rfl rfl rfl (by decide +kernel) ⟨Nat.le_of_ble_eq_true rfl, Nat.le_of_ble_eq_true rfl⟩) (z_pS hK hP hD zX_nil [] (by decide) rfl) rfl rfl hl.1 rfl (lv_room (Nat.le_of_ble_eq_true rfl)) dX3_payFor_161 ⟨Nat.le_of_ble_eq_true rfl, Nat.le_of_ble_eq_true rfl⟩) hP hD hS hA [] [0, 1, 2, 3, 4] [0, 1, 2, 3, 4] rfl rfl (by decide) (by decide) (fun _ => rfl) (by decide) (fun r19 u18 H locs hp20 hP hD hS => ?_)
        have hP : va_P (dC, dI) vwCl [(h0, .inr (3, [.int h0_lines, .int h0_laws, .int h0_sorts, .int h0_shares, .int h0_parts, .int h0_noise, .int h0_noiseTold, .ref h0_enter, .ref h0_leave, .ref h0_share, .ref h0_gift, .ref h0_wish, .ref h0_spread, .ref h0_leakBy, .ref h0_joint, .ref h0_part])), (h0_enter, .inl (cI, 6, .inl h0_enter_f)), (h0_leave, .inl (cI, 6, .inl h0_leave_f)), (h0_joint, .inl (cI, 120, .inl h0_joint_f)), (h0_part, .inl (cI, 120, .inl h0_part_f))] H := hP
        have hD : va_D A [(h0, .inr (3, [.int h0_lines, .int h0_laws, .int h0_sorts, .int h0_shares, .int h0_parts, .int h0_noise, .int h0_noiseTold, .ref h0_enter, .ref h0_leave, .ref h0_share, .ref h0_gift, .ref h0_wish, .ref h0_spread, .ref h0_leakBy, .ref h0_joint, .ref h0_part])), (h0_enter, .inl (cI, 6, .inl h0_enter_f)), (h0_leave, .inl (cI, 6, .inl h0_leave_f)), (h0_joint, .inl (cI, 120, .inl h0_joint_f)), (h0_part, .inl (cI, 120, .inl h0_part_f))] := hD
        have hp20 : (r19 = 1 ∧ (1000000000 < r17.toInt ∨ (r17.toInt ≤ 1000000000 ∧ r17.toInt < (-1000000000)))) ∨ (r19 = 0 ∧ r17.toInt ≤ 1000000000 ∧ (-1000000000) ≤ r17.toInt) := hp20
        rcases hp20 with f21 | f22
        · obtain ⟨rfl, f21⟩ := f21
          refine lv_if_eq (tgt := 171) hx hb dX3_payFor_164 (by decide) (fun c => absurd c (by decide)) (fun _ => ?_)
          refine lv_iconst (v := 0) hx hb dX3_payFor_167 (by decide) ?_
          refine lv_goto (tgt := 176) hx hb dX3_payFor_168 (by decide) ?_
          exact y_iret () hx hb hr hlocks hK hP hD hS hAe hQ rfl (Or.inl rfl) dX3_payFor_176
        · obtain ⟨rfl, f22⟩ := f22
          refine lv_if_eq (tgt := 171) hx hb dX3_payFor_164 (by decide) (fun _ => ?_) (fun c => absurd (by decide) c)
          refine lv_lload hx hb dX3_payFor_171 (lv_at hl 0 rfl) ?_
          refine y_fini (w' := fun (u23 : Unit) => [(h0, .inr (3, [.int h0_lines, .int h0_laws, .int h0_sorts, .int h0_shares, .int h0_parts, .int h0_noise, .int h0_noiseTold, .ref h0_enter, .ref h0_leave, .ref h0_share, .ref h0_gift, .ref h0_wish, .ref h0_spread, .ref h0_leakBy, .ref h0_joint, .ref h0_part])), (h0_enter, .inl (cI, 6, .inl h0_enter_f)), (h0_leave, .inl (cI, 6, .inl h0_leave_f)), (h0_joint, .inl (cI, 120, .inl h0_joint_f)), (h0_part, .inl (cI, 120, .inl h0_part_f))]) (va_runSN (As := [.long r17]) (rest := []) ⟨hx, hb, hml, hown, hts⟩ (k_X8_cutToWage l dC dI cB cI cJ cZ cP cQ H.size r17) ⟨va_cnB 1 hts gX3_payFor_X8_cutToWage_n93 rfl rfl rfl (hX.1 (RX3, 93, yX8_cutToWage, "MonthPush") (by decide +kernel)) hk1 (by decide +kernel) ⟨Nat.le_of_ble_eq_true rfl, Nat.le_of_ble_eq_true rfl⟩, hk2, trivial⟩ (z_pS hK hP hD zX_nil [] (by decide) rfl) rfl rfl hl.1 rfl (lv_room (Nat.le_of_ble_eq_true rfl)) dX3_payFor_173 ⟨Nat.le_of_ble_eq_true rfl, Nat.le_of_ble_eq_true rfl⟩) hP hD hS hA [] [0, 1, 2, 3, 4] [0, 1, 2, 3, 4] rfl rfl (by decide) (by decide) (fun _ => rfl) (by decide) (fun r24 u23 H locs hp25 hP hD hS => ?_)
          have hP : va_P (dC, dI) vwCl [(h0, .inr (3, [.int h0_lines, .int h0_laws, .int h0_sorts, .int h0_shares, .int h0_parts, .int h0_noise, .int h0_noiseTold, .ref h0_enter, .ref h0_leave, .ref h0_share, .ref h0_gift, .ref h0_wish, .ref h0_spread, .ref h0_leakBy, .ref h0_joint, .ref h0_part])), (h0_enter, .inl (cI, 6, .inl h0_enter_f)), (h0_leave, .inl (cI, 6, .inl h0_leave_f)), (h0_joint, .inl (cI, 120, .inl h0_joint_f)), (h0_part, .inl (cI, 120, .inl h0_part_f))] H := hP
          have hD : va_D A [(h0, .inr (3, [.int h0_lines, .int h0_laws, .int h0_sorts, .int h0_shares, .int h0_parts, .int h0_noise, .int h0_noiseTold, .ref h0_enter, .ref h0_leave, .ref h0_share, .ref h0_gift, .ref h0_wish, .ref h0_spread, .ref h0_leakBy, .ref h0_joint, .ref h0_part])), (h0_enter, .inl (cI, 6, .inl h0_enter_f)), (h0_leave, .inl (cI, 6, .inl h0_leave_f)), (h0_joint, .inl (cI, 120, .inl h0_joint_f)), (h0_part, .inl (cI, 120, .inl h0_part_f))] := hD
          have hp25 : 0 ≤ r24.toInt ∧ r24.toInt ≤ 9999 := hp25
          exact y_iret () hx hb hr hlocks hK hP hD hS hAe hQ rfl (Or.inr ⟨by omega, by omega⟩) dX3_payFor_176
      · have f11 : x1.toInt < h0_parts.toInt := z_nle rfl rfl c_10
        refine lv_aload_n hx hb dX3_payFor_21 rfl (lv_at hl 4 rfl) ?_
        refine lv_aload_n hx hb dX3_payFor_22 rfl (lv_at hl 4 rfl) ?_
        refine va_get (D := (dC, dI)) (ci := 3) (v := .ref h0_part) (C := RX3) (T := TX3) (N := 16) hx hb hts hi3 hown hK hP 0 rfl rfl 15 (by decide) hk3 (fun _ h9 => h9) rfl dX3_payFor_23 ?_
        refine lv_iload hx hb dX3_payFor_26 (lv_at hl 0 rfl) ?_
        refine va_iald hx hb hK hP 4 1 rfl rfl (z_in rfl (by omega) (by omega)) dX3_payFor_28 ?_
        refine lv_iload_n hx hb dX3_payFor_29 rfl (lv_at hl 5 rfl) ?_
        refine lv_iload_n hx hb dX3_payFor_30 rfl (lv_at hl 6 rfl) ?_
        refine lv_iload_n hx hb dX3_payFor_31 rfl (lv_at hl 7 rfl) ?_
        refine lv_iload hx hb dX3_payFor_32 (lv_at hl 8 rfl) ?_
        refine y_fini (w' := fun (u27 : Unit) => [(h0, .inr (3, [.int h0_lines, .int h0_laws, .int h0_sorts, .int h0_shares, .int h0_parts, .int h0_noise, .int h0_noiseTold, .ref h0_enter, .ref h0_leave, .ref h0_share, .ref h0_gift, .ref h0_wish, .ref h0_spread, .ref h0_leakBy, .ref h0_joint, .ref h0_part])), (h0_enter, .inl (cI, 6, .inl h0_enter_f)), (h0_leave, .inl (cI, 6, .inl h0_leave_f)), (h0_joint, .inl (cI, 120, .inl h0_joint_f)), (h0_part, .inl (cI, 120, .inl h0_part_f))]) (va_runV (As := [.int (h0_part_f x1.toNatClampNeg), .int p1, .int p2, .int p3, .int p4]) (rest := []) ⟨hx, hb, hml, hown, hts⟩ (k_X3_partAt l dC dI cB cI cJ cZ cP cQ h0 h0_enter h0_leave h0_share h0_gift h0_wish h0_spread h0_leakBy h0_joint h0_part H.size (h0_part_f x1.toNatClampNeg) p1 p2 p3 p4 h0_lines h0_laws h0_sorts h0_shares h0_parts h0_noise h0_noiseTold h0_enter_f h0_leave_f (show 0 ≤ h0_laws.toInt from by omega) (show h0_laws.toInt ≤ 6 from by omega) (show 0 ≤ h0_sorts.toInt from by omega) (show h0_sorts.toInt ≤ 8 from by omega) (show 0 ≤ h0_parts.toInt from by omega) (show h0_parts.toInt ≤ 120 from by omega) (show 0 ≤ h0_noiseTold.toInt from by omega) (show h0_noiseTold.toInt ≤ 1 from by omega) (show 0 ≤ p4.toInt from by omega) (show p4.toInt ≤ 5 from by omega)) (cwV 5 hts gX3_payFor_X3_partAt rfl rfl rfl (by decide +kernel) ⟨Nat.le_of_ble_eq_true rfl, Nat.le_of_ble_eq_true rfl⟩) (z_pV (ci := 3) hK hP hD zX_nil [0, 1, 2] (by decide) rfl rfl 0 rfl) rfl rfl hl.1 rfl (lv_room (Nat.le_of_ble_eq_true rfl)) dX3_payFor_34 ⟨Nat.le_of_ble_eq_true rfl, Nat.le_of_ble_eq_true rfl⟩) hP hD hS hA [0, 1, 2] [3, 4] [2, 3, 4, 0, 1] rfl rfl (by decide) (by decide) (fun _ => rfl) (by decide) (fun r28 u27 H locs hp29 hP hD hS => ?_)
        have hP : va_P (dC, dI) vwCl [(h0, .inr (3, [.int h0_lines, .int h0_laws, .int h0_sorts, .int h0_shares, .int h0_parts, .int h0_noise, .int h0_noiseTold, .ref h0_enter, .ref h0_leave, .ref h0_share, .ref h0_gift, .ref h0_wish, .ref h0_spread, .ref h0_leakBy, .ref h0_joint, .ref h0_part])), (h0_enter, .inl (cI, 6, .inl h0_enter_f)), (h0_leave, .inl (cI, 6, .inl h0_leave_f)), (h0_joint, .inl (cI, 120, .inl h0_joint_f)), (h0_part, .inl (cI, 120, .inl h0_part_f))] H := hP
        have hD : va_D A [(h0, .inr (3, [.int h0_lines, .int h0_laws, .int h0_sorts, .int h0_shares, .int h0_parts, .int h0_noise, .int h0_noiseTold, .ref h0_enter, .ref h0_leave, .ref h0_share, .ref h0_gift, .ref h0_wish, .ref h0_spread, .ref h0_leakBy, .ref h0_joint, .ref h0_part])), (h0_enter, .inl (cI, 6, .inl h0_enter_f)), (h0_leave, .inl (cI, 6, .inl h0_leave_f)), (h0_joint, .inl (cI, 120, .inl h0_joint_f)), (h0_part, .inl (cI, 120, .inl h0_part_f))] := hD
        have hp29 : True := hp29
        refine lv_i2l hx hb dX3_payFor_37 rfl ?_
        have f31 : -2147483648 ≤ r28.toInt ∧ r28.toInt < 2147483648 := z_rngI rfl
        refine lv_topl (fun r32 h33 => ?_)
        have f34 : r32.toInt = r28.toInt := z_i2lT h33 rfl
        refine lv_lstore (lv' := [(11, .long r32), (10, .int x1), (9, .int x2), (7, .long x3), (5, .long x4), (0, .ref h0), (1, .int p1), (2, .int p2), (3, .int p3), (4, .int p4)]) hx hb dX3_payFor_38 hl (by decide) rfl (fun ls hl => ?_)
        refine lv_aload_n hx hb dX3_payFor_40 rfl (lv_at hl 5 rfl) ?_
        refine va_get (D := (dC, dI)) (ci := 3) (v := .ref h0_joint) (C := RX3) (T := TX3) (N := 16) hx hb hts hi3 hown hK hP 0 rfl rfl 14 (by decide) hk4 (fun _ h9 => h9) rfl dX3_payFor_41 ?_
        refine lv_iload hx hb dX3_payFor_44 (lv_at hl 1 rfl) ?_
        refine va_iald hx hb hK hP 3 1 rfl rfl (z_in rfl (by omega) (by omega)) dX3_payFor_46 ?_
        refine lv_iconst (v := 2) hx hb dX3_payFor_47 (by decide) ?_
        refine lv_icmp_ne (tgt := 61) hx hb dX3_payFor_48 (by decide) (fun c_35 => ?_) (fun c_35 => ?_)
        · have f36 : ¬ (h0_joint_f x1.toNatClampNeg).toInt = 2 := z_ne rfl (by decide) c_35
          refine lv_aload_n hx hb dX3_payFor_61 rfl (lv_at hl 5 rfl) ?_
          refine va_get (D := (dC, dI)) (ci := 3) (v := .ref h0_joint) (C := RX3) (T := TX3) (N := 16) hx hb hts hi3 hown hK hP 0 rfl rfl 14 (by decide) hk4 (fun _ h9 => h9) rfl dX3_payFor_62 ?_
          refine lv_iload hx hb dX3_payFor_65 (lv_at hl 1 rfl) ?_
          refine va_iald hx hb hK hP 3 1 rfl rfl (z_in rfl (by omega) (by omega)) dX3_payFor_67 ?_
          refine lv_iconst (v := 3) hx hb dX3_payFor_68 (by decide) ?_
          refine lv_icmp_ne (tgt := 91) hx hb dX3_payFor_69 (by decide) (fun c_37 => ?_) (fun c_37 => ?_)
          · have f38 : ¬ (h0_joint_f x1.toNatClampNeg).toInt = 3 := z_ne rfl (by decide) c_37
            refine lv_lload hx hb dX3_payFor_91 (lv_at hl 4 rfl) ?_
            refine lv_iload hx hb dX3_payFor_93 (lv_at hl 2 rfl) ?_
            refine lv_i2l hx hb dX3_payFor_95 rfl ?_
            have f39 : -2147483648 ≤ x2.toInt ∧ x2.toInt < 2147483648 := z_rngI rfl
            refine lv_topl (fun r40 h41 => ?_)
            have f42 : r40.toInt = x2.toInt := z_i2lT h41 rfl
            refine lv_lload hx hb dX3_payFor_96 (lv_at hl 3 rfl) ?_
            refine lv_lmul hx hb dX3_payFor_98 ?_
            refine lv_topl (fun r43 _ => ?_)
            refine lv_ladd hx hb dX3_payFor_99 ?_
            refine lv_topl (fun r44 _ => ?_)
            refine lv_lstore (lv' := [(5, .long r44), (11, .long r32), (10, .int x1), (9, .int x2), (7, .long x3), (0, .ref h0), (1, .int p1), (2, .int p2), (3, .int p3), (4, .int p4)]) hx hb dX3_payFor_100 hl (by decide) rfl (fun ls hl => ?_)
            refine lv_lload hx hb dX3_payFor_102 (lv_at hl 1 rfl) ?_
            refine lv_lstore (lv' := [(7, .long r32), (5, .long r44), (11, .long r32), (10, .int x1), (9, .int x2), (0, .ref h0), (1, .int p1), (2, .int p2), (3, .int p3), (4, .int p4)]) hx hb dX3_payFor_104 hl (by decide) rfl (fun ls hl => ?_)
            refine lv_aload_n hx hb dX3_payFor_106 rfl (lv_at hl 5 rfl) ?_
            refine va_get (D := (dC, dI)) (ci := 3) (v := .ref h0_joint) (C := RX3) (T := TX3) (N := 16) hx hb hts hi3 hown hK hP 0 rfl rfl 14 (by decide) hk4 (fun _ h9 => h9) rfl dX3_payFor_107 ?_
            refine lv_iload hx hb dX3_payFor_110 (lv_at hl 3 rfl) ?_
            refine va_iald hx hb hK hP 3 1 rfl rfl (z_in rfl (by omega) (by omega)) dX3_payFor_112 ?_
            refine lv_iconst (v := 1) hx hb dX3_payFor_113 (by decide) ?_
            refine lv_icmp_ne (tgt := 121) hx hb dX3_payFor_114 (by decide) (fun c_45 => ?_) (fun c_45 => ?_)
            · have f46 : ¬ (h0_joint_f x1.toNatClampNeg).toInt = 1 := z_ne rfl (by decide) c_45
              refine lv_iconst (v := 1) hx hb dX3_payFor_121 (by decide) ?_
              refine lv_istore (lv' := [(9, .int 1), (7, .long r32), (5, .long r44), (11, .long r32), (10, .int x1), (0, .ref h0), (1, .int p1), (2, .int p2), (3, .int p3), (4, .int p4)]) hx hb dX3_payFor_122 hl (by decide) rfl (fun ls hl => ?_)
              refine lv_lload hx hb dX3_payFor_124 (lv_at hl 1 rfl) ?_
              refine y_fini (w' := fun (u47 : Unit) => [(h0, .inr (3, [.int h0_lines, .int h0_laws, .int h0_sorts, .int h0_shares, .int h0_parts, .int h0_noise, .int h0_noiseTold, .ref h0_enter, .ref h0_leave, .ref h0_share, .ref h0_gift, .ref h0_wish, .ref h0_spread, .ref h0_leakBy, .ref h0_joint, .ref h0_part])), (h0_enter, .inl (cI, 6, .inl h0_enter_f)), (h0_leave, .inl (cI, 6, .inl h0_leave_f)), (h0_joint, .inl (cI, 120, .inl h0_joint_f)), (h0_part, .inl (cI, 120, .inl h0_part_f))]) (va_runS (As := [.long r32]) (rest := []) ⟨hx, hb, hml, hown, hts⟩ (k_X3_isTooFar l dC dI cB cI cJ cZ cP cQ H.size r32) (va_cwS 1 hts gX3_payFor_X3_isTooFar rfl rfl rfl (by decide +kernel) ⟨Nat.le_of_ble_eq_true rfl, Nat.le_of_ble_eq_true rfl⟩) (z_pS hK hP hD zX_nil [] (by decide) rfl) rfl rfl hl.1 rfl (lv_room (Nat.le_of_ble_eq_true rfl)) dX3_payFor_126 ⟨Nat.le_of_ble_eq_true rfl, Nat.le_of_ble_eq_true rfl⟩) hP hD hS hA [] [0, 1, 2, 3, 4] [0, 1, 2, 3, 4] rfl rfl (by decide) (by decide) (fun _ => rfl) (by decide) (fun r48 u47 H locs hp49 hP hD hS => ?_)
              have hP : va_P (dC, dI) vwCl [(h0, .inr (3, [.int h0_lines, .int h0_laws, .int h0_sorts, .int h0_shares, .int h0_parts, .int h0_noise, .int h0_noiseTold, .ref h0_enter, .ref h0_leave, .ref h0_share, .ref h0_gift, .ref h0_wish, .ref h0_spread, .ref h0_leakBy, .ref h0_joint, .ref h0_part])), (h0_enter, .inl (cI, 6, .inl h0_enter_f)), (h0_leave, .inl (cI, 6, .inl h0_leave_f)), (h0_joint, .inl (cI, 120, .inl h0_joint_f)), (h0_part, .inl (cI, 120, .inl h0_part_f))] H := hP
              have hD : va_D A [(h0, .inr (3, [.int h0_lines, .int h0_laws, .int h0_sorts, .int h0_shares, .int h0_parts, .int h0_noise, .int h0_noiseTold, .ref h0_enter, .ref h0_leave, .ref h0_share, .ref h0_gift, .ref h0_wish, .ref h0_spread, .ref h0_leakBy, .ref h0_joint, .ref h0_part])), (h0_enter, .inl (cI, 6, .inl h0_enter_f)), (h0_leave, .inl (cI, 6, .inl h0_leave_f)), (h0_joint, .inl (cI, 120, .inl h0_joint_f)), (h0_part, .inl (cI, 120, .inl h0_part_f))] := hD
              have hp49 : (r48 = 1 ∧ (1000000000 < r32.toInt ∨ (r32.toInt ≤ 1000000000 ∧ r32.toInt < (-1000000000)))) ∨ (r48 = 0 ∧ r32.toInt ≤ 1000000000 ∧ (-1000000000) ≤ r32.toInt) := hp49
              rcases hp49 with f50 | f51
              · obtain ⟨rfl, f50⟩ := f50
                refine lv_if_ne (tgt := 140) hx hb dX3_payFor_129 (by decide) (fun _ => ?_) (fun c => absurd c (by decide))
                refine lv_iconst (v := 0) hx hb dX3_payFor_140 (by decide) ?_
                exact y_iret () hx hb hr hlocks hK hP hD hS hAe hQ rfl (Or.inl rfl) dX3_payFor_141
              · obtain ⟨rfl, f51⟩ := f51
                refine lv_if_ne (tgt := 140) hx hb dX3_payFor_129 (by decide) (fun c => absurd (by decide) c) (fun _ => ?_)
                refine lv_lload hx hb dX3_payFor_132 (lv_at hl 2 rfl) ?_
                refine y_fini (w' := fun (u52 : Unit) => [(h0, .inr (3, [.int h0_lines, .int h0_laws, .int h0_sorts, .int h0_shares, .int h0_parts, .int h0_noise, .int h0_noiseTold, .ref h0_enter, .ref h0_leave, .ref h0_share, .ref h0_gift, .ref h0_wish, .ref h0_spread, .ref h0_leakBy, .ref h0_joint, .ref h0_part])), (h0_enter, .inl (cI, 6, .inl h0_enter_f)), (h0_leave, .inl (cI, 6, .inl h0_leave_f)), (h0_joint, .inl (cI, 120, .inl h0_joint_f)), (h0_part, .inl (cI, 120, .inl h0_part_f))]) (va_runS (As := [.long r44]) (rest := []) ⟨hx, hb, hml, hown, hts⟩ (k_X3_isTooFar l dC dI cB cI cJ cZ cP cQ H.size r44) (va_cwS 1 hts gX3_payFor_X3_isTooFar rfl rfl rfl (by decide +kernel) ⟨Nat.le_of_ble_eq_true rfl, Nat.le_of_ble_eq_true rfl⟩) (z_pS hK hP hD zX_nil [] (by decide) rfl) rfl rfl hl.1 rfl (lv_room (Nat.le_of_ble_eq_true rfl)) dX3_payFor_134 ⟨Nat.le_of_ble_eq_true rfl, Nat.le_of_ble_eq_true rfl⟩) hP hD hS hA [] [0, 1, 2, 3, 4] [0, 1, 2, 3, 4] rfl rfl (by decide) (by decide) (fun _ => rfl) (by decide) (fun r53 u52 H locs hp54 hP hD hS => ?_)
                have hP : va_P (dC, dI) vwCl [(h0, .inr (3, [.int h0_lines, .int h0_laws, .int h0_sorts, .int h0_shares, .int h0_parts, .int h0_noise, .int h0_noiseTold, .ref h0_enter, .ref h0_leave, .ref h0_share, .ref h0_gift, .ref h0_wish, .ref h0_spread, .ref h0_leakBy, .ref h0_joint, .ref h0_part])), (h0_enter, .inl (cI, 6, .inl h0_enter_f)), (h0_leave, .inl (cI, 6, .inl h0_leave_f)), (h0_joint, .inl (cI, 120, .inl h0_joint_f)), (h0_part, .inl (cI, 120, .inl h0_part_f))] H := hP
                have hD : va_D A [(h0, .inr (3, [.int h0_lines, .int h0_laws, .int h0_sorts, .int h0_shares, .int h0_parts, .int h0_noise, .int h0_noiseTold, .ref h0_enter, .ref h0_leave, .ref h0_share, .ref h0_gift, .ref h0_wish, .ref h0_spread, .ref h0_leakBy, .ref h0_joint, .ref h0_part])), (h0_enter, .inl (cI, 6, .inl h0_enter_f)), (h0_leave, .inl (cI, 6, .inl h0_leave_f)), (h0_joint, .inl (cI, 120, .inl h0_joint_f)), (h0_part, .inl (cI, 120, .inl h0_part_f))] := hD
                have hp54 : (r53 = 1 ∧ (1000000000 < r44.toInt ∨ (r44.toInt ≤ 1000000000 ∧ r44.toInt < (-1000000000)))) ∨ (r53 = 0 ∧ r44.toInt ≤ 1000000000 ∧ (-1000000000) ≤ r44.toInt) := hp54
                rcases hp54 with f55 | f56
                · obtain ⟨rfl, f55⟩ := f55
                  refine lv_if_eq (tgt := 142) hx hb dX3_payFor_137 (by decide) (fun c => absurd c (by decide)) (fun _ => ?_)
                  refine lv_iconst (v := 0) hx hb dX3_payFor_140 (by decide) ?_
                  exact y_iret () hx hb hr hlocks hK hP hD hS hAe hQ rfl (Or.inl rfl) dX3_payFor_141
                · obtain ⟨rfl, f56⟩ := f56
                  refine lv_if_eq (tgt := 142) hx hb dX3_payFor_137 (by decide) (fun _ => ?_) (fun c => absurd (by decide) c)
                  obtain ⟨r57, h58⟩ : ∃ q : Int32, q = x1 + 1 := ⟨_, rfl⟩
                  have f59 : r57.toInt = x1.toInt + 1 := z_iadd h58 rfl (by decide) (by omega) (by omega)
                  refine lv_iinc (v := r57) (lv' := [(10, .int r57), (9, .int 1), (7, .long r32), (5, .long r44), (11, .long r32), (0, .ref h0), (1, .int p1), (2, .int p2), (3, .int p3), (4, .int p4)]) hx hb dX3_payFor_142 hl (k := 4) rfl h58.symm (by decide) rfl (fun ls hl => ?_)
                  refine lv_goto (tgt := 12) hx hb dX3_payFor_145 (by decide) ?_
                  exact ih9 r57 1 r32 r44 (by omega) (by omega) (by omega) _ _ hP hD hS ls (lv_sub hl [0, 1, 2, 3, 5, 6, 7, 8, 9] rfl)
            · have f46 : (h0_joint_f x1.toNatClampNeg).toInt = 1 := z_eq rfl (by decide) c_45
              refine lv_iconst (v := (-1)) hx hb dX3_payFor_117 (by decide) ?_
              refine lv_goto (tgt := 122) hx hb dX3_payFor_118 (by decide) ?_
              refine lv_istore (lv' := [(9, .int (-1)), (7, .long r32), (5, .long r44), (11, .long r32), (10, .int x1), (0, .ref h0), (1, .int p1), (2, .int p2), (3, .int p3), (4, .int p4)]) hx hb dX3_payFor_122 hl (by decide) rfl (fun ls hl => ?_)
              refine lv_lload hx hb dX3_payFor_124 (lv_at hl 1 rfl) ?_
              refine y_fini (w' := fun (u60 : Unit) => [(h0, .inr (3, [.int h0_lines, .int h0_laws, .int h0_sorts, .int h0_shares, .int h0_parts, .int h0_noise, .int h0_noiseTold, .ref h0_enter, .ref h0_leave, .ref h0_share, .ref h0_gift, .ref h0_wish, .ref h0_spread, .ref h0_leakBy, .ref h0_joint, .ref h0_part])), (h0_enter, .inl (cI, 6, .inl h0_enter_f)), (h0_leave, .inl (cI, 6, .inl h0_leave_f)), (h0_joint, .inl (cI, 120, .inl h0_joint_f)), (h0_part, .inl (cI, 120, .inl h0_part_f))]) (va_runS (As := [.long r32]) (rest := []) ⟨hx, hb, hml, hown, hts⟩ (k_X3_isTooFar l dC dI cB cI cJ cZ cP cQ H.size r32) (va_cwS 1 hts gX3_payFor_X3_isTooFar rfl rfl rfl (by decide +kernel) ⟨Nat.le_of_ble_eq_true rfl, Nat.le_of_ble_eq_true rfl⟩) (z_pS hK hP hD zX_nil [] (by decide) rfl) rfl rfl hl.1 rfl (lv_room (Nat.le_of_ble_eq_true rfl)) dX3_payFor_126 ⟨Nat.le_of_ble_eq_true rfl, Nat.le_of_ble_eq_true rfl⟩) hP hD hS hA [] [0, 1, 2, 3, 4] [0, 1, 2, 3, 4] rfl rfl (by decide) (by decide) (fun _ => rfl) (by decide) (fun r61 u60 H locs hp62 hP hD hS => ?_)
              have hP : va_P (dC, dI) vwCl [(h0, .inr (3, [.int h0_lines, .int h0_laws, .int h0_sorts, .int h0_shares, .int h0_parts, .int h0_noise, .int h0_noiseTold, .ref h0_enter, .ref h0_leave, .ref h0_share, .ref h0_gift, .ref h0_wish, .ref h0_spread, .ref h0_leakBy, .ref h0_joint, .ref h0_part])), (h0_enter, .inl (cI, 6, .inl h0_enter_f)), (h0_leave, .inl (cI, 6, .inl h0_leave_f)), (h0_joint, .inl (cI, 120, .inl h0_joint_f)), (h0_part, .inl (cI, 120, .inl h0_part_f))] H := hP
              have hD : va_D A [(h0, .inr (3, [.int h0_lines, .int h0_laws, .int h0_sorts, .int h0_shares, .int h0_parts, .int h0_noise, .int h0_noiseTold, .ref h0_enter, .ref h0_leave, .ref h0_share, .ref h0_gift, .ref h0_wish, .ref h0_spread, .ref h0_leakBy, .ref h0_joint, .ref h0_part])), (h0_enter, .inl (cI, 6, .inl h0_enter_f)), (h0_leave, .inl (cI, 6, .inl h0_leave_f)), (h0_joint, .inl (cI, 120, .inl h0_joint_f)), (h0_part, .inl (cI, 120, .inl h0_part_f))] := hD
              have hp62 : (r61 = 1 ∧ (1000000000 < r32.toInt ∨ (r32.toInt ≤ 1000000000 ∧ r32.toInt < (-1000000000)))) ∨ (r61 = 0 ∧ r32.toInt ≤ 1000000000 ∧ (-1000000000) ≤ r32.toInt) := hp62
              rcases hp62 with f63 | f64
              · obtain ⟨rfl, f63⟩ := f63
                refine lv_if_ne (tgt := 140) hx hb dX3_payFor_129 (by decide) (fun _ => ?_) (fun c => absurd c (by decide))
                refine lv_iconst (v := 0) hx hb dX3_payFor_140 (by decide) ?_
                exact y_iret () hx hb hr hlocks hK hP hD hS hAe hQ rfl (Or.inl rfl) dX3_payFor_141
              · obtain ⟨rfl, f64⟩ := f64
                refine lv_if_ne (tgt := 140) hx hb dX3_payFor_129 (by decide) (fun c => absurd (by decide) c) (fun _ => ?_)
                refine lv_lload hx hb dX3_payFor_132 (lv_at hl 2 rfl) ?_
                refine y_fini (w' := fun (u65 : Unit) => [(h0, .inr (3, [.int h0_lines, .int h0_laws, .int h0_sorts, .int h0_shares, .int h0_parts, .int h0_noise, .int h0_noiseTold, .ref h0_enter, .ref h0_leave, .ref h0_share, .ref h0_gift, .ref h0_wish, .ref h0_spread, .ref h0_leakBy, .ref h0_joint, .ref h0_part])), (h0_enter, .inl (cI, 6, .inl h0_enter_f)), (h0_leave, .inl (cI, 6, .inl h0_leave_f)), (h0_joint, .inl (cI, 120, .inl h0_joint_f)), (h0_part, .inl (cI, 120, .inl h0_part_f))]) (va_runS (As := [.long r44]) (rest := []) ⟨hx, hb, hml, hown, hts⟩ (k_X3_isTooFar l dC dI cB cI cJ cZ cP cQ H.size r44) (va_cwS 1 hts gX3_payFor_X3_isTooFar rfl rfl rfl (by decide +kernel) ⟨Nat.le_of_ble_eq_true rfl, Nat.le_of_ble_eq_true rfl⟩) (z_pS hK hP hD zX_nil [] (by decide) rfl) rfl rfl hl.1 rfl (lv_room (Nat.le_of_ble_eq_true rfl)) dX3_payFor_134 ⟨Nat.le_of_ble_eq_true rfl, Nat.le_of_ble_eq_true rfl⟩) hP hD hS hA [] [0, 1, 2, 3, 4] [0, 1, 2, 3, 4] rfl rfl (by decide) (by decide) (fun _ => rfl) (by decide) (fun r66 u65 H locs hp67 hP hD hS => ?_)
                have hP : va_P (dC, dI) vwCl [(h0, .inr (3, [.int h0_lines, .int h0_laws, .int h0_sorts, .int h0_shares, .int h0_parts, .int h0_noise, .int h0_noiseTold, .ref h0_enter, .ref h0_leave, .ref h0_share, .ref h0_gift, .ref h0_wish, .ref h0_spread, .ref h0_leakBy, .ref h0_joint, .ref h0_part])), (h0_enter, .inl (cI, 6, .inl h0_enter_f)), (h0_leave, .inl (cI, 6, .inl h0_leave_f)), (h0_joint, .inl (cI, 120, .inl h0_joint_f)), (h0_part, .inl (cI, 120, .inl h0_part_f))] H := hP
                have hD : va_D A [(h0, .inr (3, [.int h0_lines, .int h0_laws, .int h0_sorts, .int h0_shares, .int h0_parts, .int h0_noise, .int h0_noiseTold, .ref h0_enter, .ref h0_leave, .ref h0_share, .ref h0_gift, .ref h0_wish, .ref h0_spread, .ref h0_leakBy, .ref h0_joint, .ref h0_part])), (h0_enter, .inl (cI, 6, .inl h0_enter_f)), (h0_leave, .inl (cI, 6, .inl h0_leave_f)), (h0_joint, .inl (cI, 120, .inl h0_joint_f)), (h0_part, .inl (cI, 120, .inl h0_part_f))] := hD
                have hp67 : (r66 = 1 ∧ (1000000000 < r44.toInt ∨ (r44.toInt ≤ 1000000000 ∧ r44.toInt < (-1000000000)))) ∨ (r66 = 0 ∧ r44.toInt ≤ 1000000000 ∧ (-1000000000) ≤ r44.toInt) := hp67
                rcases hp67 with f68 | f69
                · obtain ⟨rfl, f68⟩ := f68
                  refine lv_if_eq (tgt := 142) hx hb dX3_payFor_137 (by decide) (fun c => absurd c (by decide)) (fun _ => ?_)
                  refine lv_iconst (v := 0) hx hb dX3_payFor_140 (by decide) ?_
                  exact y_iret () hx hb hr hlocks hK hP hD hS hAe hQ rfl (Or.inl rfl) dX3_payFor_141
                · obtain ⟨rfl, f69⟩ := f69
                  refine lv_if_eq (tgt := 142) hx hb dX3_payFor_137 (by decide) (fun _ => ?_) (fun c => absurd (by decide) c)
                  obtain ⟨r70, h71⟩ : ∃ q : Int32, q = x1 + 1 := ⟨_, rfl⟩
                  have f72 : r70.toInt = x1.toInt + 1 := z_iadd h71 rfl (by decide) (by omega) (by omega)
                  refine lv_iinc (v := r70) (lv' := [(10, .int r70), (9, .int (-1)), (7, .long r32), (5, .long r44), (11, .long r32), (0, .ref h0), (1, .int p1), (2, .int p2), (3, .int p3), (4, .int p4)]) hx hb dX3_payFor_142 hl (k := 4) rfl h71.symm (by decide) rfl (fun ls hl => ?_)
                  refine lv_goto (tgt := 12) hx hb dX3_payFor_145 (by decide) ?_
                  exact ih9 r70 (-1) r32 r44 (by omega) (by omega) (by omega) _ _ hP hD hS ls (lv_sub hl [0, 1, 2, 3, 5, 6, 7, 8, 9] rfl)
          · have f38 : (h0_joint_f x1.toNatClampNeg).toInt = 3 := z_eq rfl (by decide) c_37
            refine lv_lload hx hb dX3_payFor_72 (lv_at hl 0 rfl) ?_
            refine lv_lconst (v := 0) hx hb dX3_payFor_74 (by decide) ?_
            refine W.lcmp hx hb dX3_payFor_75 ?_
            refine lv_if_ne (tgt := 81) hx hb dX3_payFor_76 (by decide) (fun c_73 => ?_) (fun c_73 => ?_)
            · have f74 : ¬ r32.toInt = 0 := z_lne rfl (by decide) c_73
              refine lv_lload hx hb dX3_payFor_81 (lv_at hl 3 rfl) ?_
              refine lv_lload hx hb dX3_payFor_83 (lv_at hl 0 rfl) ?_
              refine lv_ldiv hx hb dX3_payFor_85 (z_nl0 rfl (by omega)) ?_
              refine lv_topl (fun r75 h76 => ?_)
              refine lv_lstore (lv' := [(7, .long r75), (11, .long r32), (10, .int x1), (9, .int x2), (5, .long x4), (0, .ref h0), (1, .int p1), (2, .int p2), (3, .int p3), (4, .int p4)]) hx hb dX3_payFor_86 hl (by decide) rfl (fun ls hl => ?_)
              refine lv_goto (tgt := 124) hx hb dX3_payFor_88 (by decide) ?_
              refine lv_lload hx hb dX3_payFor_124 (lv_at hl 0 rfl) ?_
              refine y_fini (w' := fun (u77 : Unit) => [(h0, .inr (3, [.int h0_lines, .int h0_laws, .int h0_sorts, .int h0_shares, .int h0_parts, .int h0_noise, .int h0_noiseTold, .ref h0_enter, .ref h0_leave, .ref h0_share, .ref h0_gift, .ref h0_wish, .ref h0_spread, .ref h0_leakBy, .ref h0_joint, .ref h0_part])), (h0_enter, .inl (cI, 6, .inl h0_enter_f)), (h0_leave, .inl (cI, 6, .inl h0_leave_f)), (h0_joint, .inl (cI, 120, .inl h0_joint_f)), (h0_part, .inl (cI, 120, .inl h0_part_f))]) (va_runS (As := [.long r75]) (rest := []) ⟨hx, hb, hml, hown, hts⟩ (k_X3_isTooFar l dC dI cB cI cJ cZ cP cQ H.size r75) (va_cwS 1 hts gX3_payFor_X3_isTooFar rfl rfl rfl (by decide +kernel) ⟨Nat.le_of_ble_eq_true rfl, Nat.le_of_ble_eq_true rfl⟩) (z_pS hK hP hD zX_nil [] (by decide) rfl) rfl rfl hl.1 rfl (lv_room (Nat.le_of_ble_eq_true rfl)) dX3_payFor_126 ⟨Nat.le_of_ble_eq_true rfl, Nat.le_of_ble_eq_true rfl⟩) hP hD hS hA [] [0, 1, 2, 3, 4] [0, 1, 2, 3, 4] rfl rfl (by decide) (by decide) (fun _ => rfl) (by decide) (fun r78 u77 H locs hp79 hP hD hS => ?_)
              have hP : va_P (dC, dI) vwCl [(h0, .inr (3, [.int h0_lines, .int h0_laws, .int h0_sorts, .int h0_shares, .int h0_parts, .int h0_noise, .int h0_noiseTold, .ref h0_enter, .ref h0_leave, .ref h0_share, .ref h0_gift, .ref h0_wish, .ref h0_spread, .ref h0_leakBy, .ref h0_joint, .ref h0_part])), (h0_enter, .inl (cI, 6, .inl h0_enter_f)), (h0_leave, .inl (cI, 6, .inl h0_leave_f)), (h0_joint, .inl (cI, 120, .inl h0_joint_f)), (h0_part, .inl (cI, 120, .inl h0_part_f))] H := hP
              have hD : va_D A [(h0, .inr (3, [.int h0_lines, .int h0_laws, .int h0_sorts, .int h0_shares, .int h0_parts, .int h0_noise, .int h0_noiseTold, .ref h0_enter, .ref h0_leave, .ref h0_share, .ref h0_gift, .ref h0_wish, .ref h0_spread, .ref h0_leakBy, .ref h0_joint, .ref h0_part])), (h0_enter, .inl (cI, 6, .inl h0_enter_f)), (h0_leave, .inl (cI, 6, .inl h0_leave_f)), (h0_joint, .inl (cI, 120, .inl h0_joint_f)), (h0_part, .inl (cI, 120, .inl h0_part_f))] := hD
              have hp79 : (r78 = 1 ∧ (1000000000 < r75.toInt ∨ (r75.toInt ≤ 1000000000 ∧ r75.toInt < (-1000000000)))) ∨ (r78 = 0 ∧ r75.toInt ≤ 1000000000 ∧ (-1000000000) ≤ r75.toInt) := hp79
              rcases hp79 with f80 | f81
              · obtain ⟨rfl, f80⟩ := f80
                refine lv_if_ne (tgt := 140) hx hb dX3_payFor_129 (by decide) (fun _ => ?_) (fun c => absurd c (by decide))
                refine lv_iconst (v := 0) hx hb dX3_payFor_140 (by decide) ?_
                exact y_iret () hx hb hr hlocks hK hP hD hS hAe hQ rfl (Or.inl rfl) dX3_payFor_141
              · obtain ⟨rfl, f81⟩ := f81
                refine lv_if_ne (tgt := 140) hx hb dX3_payFor_129 (by decide) (fun c => absurd (by decide) c) (fun _ => ?_)
                refine lv_lload hx hb dX3_payFor_132 (lv_at hl 4 rfl) ?_
                refine y_fini (w' := fun (u82 : Unit) => [(h0, .inr (3, [.int h0_lines, .int h0_laws, .int h0_sorts, .int h0_shares, .int h0_parts, .int h0_noise, .int h0_noiseTold, .ref h0_enter, .ref h0_leave, .ref h0_share, .ref h0_gift, .ref h0_wish, .ref h0_spread, .ref h0_leakBy, .ref h0_joint, .ref h0_part])), (h0_enter, .inl (cI, 6, .inl h0_enter_f)), (h0_leave, .inl (cI, 6, .inl h0_leave_f)), (h0_joint, .inl (cI, 120, .inl h0_joint_f)), (h0_part, .inl (cI, 120, .inl h0_part_f))]) (va_runS (As := [.long x4]) (rest := []) ⟨hx, hb, hml, hown, hts⟩ (k_X3_isTooFar l dC dI cB cI cJ cZ cP cQ H.size x4) (va_cwS 1 hts gX3_payFor_X3_isTooFar rfl rfl rfl (by decide +kernel) ⟨Nat.le_of_ble_eq_true rfl, Nat.le_of_ble_eq_true rfl⟩) (z_pS hK hP hD zX_nil [] (by decide) rfl) rfl rfl hl.1 rfl (lv_room (Nat.le_of_ble_eq_true rfl)) dX3_payFor_134 ⟨Nat.le_of_ble_eq_true rfl, Nat.le_of_ble_eq_true rfl⟩) hP hD hS hA [] [0, 1, 2, 3, 4] [0, 1, 2, 3, 4] rfl rfl (by decide) (by decide) (fun _ => rfl) (by decide) (fun r83 u82 H locs hp84 hP hD hS => ?_)
                have hP : va_P (dC, dI) vwCl [(h0, .inr (3, [.int h0_lines, .int h0_laws, .int h0_sorts, .int h0_shares, .int h0_parts, .int h0_noise, .int h0_noiseTold, .ref h0_enter, .ref h0_leave, .ref h0_share, .ref h0_gift, .ref h0_wish, .ref h0_spread, .ref h0_leakBy, .ref h0_joint, .ref h0_part])), (h0_enter, .inl (cI, 6, .inl h0_enter_f)), (h0_leave, .inl (cI, 6, .inl h0_leave_f)), (h0_joint, .inl (cI, 120, .inl h0_joint_f)), (h0_part, .inl (cI, 120, .inl h0_part_f))] H := hP
                have hD : va_D A [(h0, .inr (3, [.int h0_lines, .int h0_laws, .int h0_sorts, .int h0_shares, .int h0_parts, .int h0_noise, .int h0_noiseTold, .ref h0_enter, .ref h0_leave, .ref h0_share, .ref h0_gift, .ref h0_wish, .ref h0_spread, .ref h0_leakBy, .ref h0_joint, .ref h0_part])), (h0_enter, .inl (cI, 6, .inl h0_enter_f)), (h0_leave, .inl (cI, 6, .inl h0_leave_f)), (h0_joint, .inl (cI, 120, .inl h0_joint_f)), (h0_part, .inl (cI, 120, .inl h0_part_f))] := hD
                have hp84 : (r83 = 1 ∧ (1000000000 < x4.toInt ∨ (x4.toInt ≤ 1000000000 ∧ x4.toInt < (-1000000000)))) ∨ (r83 = 0 ∧ x4.toInt ≤ 1000000000 ∧ (-1000000000) ≤ x4.toInt) := hp84
                rcases hp84 with f85 | f86
                · obtain ⟨rfl, f85⟩ := f85
                  refine lv_if_eq (tgt := 142) hx hb dX3_payFor_137 (by decide) (fun c => absurd c (by decide)) (fun _ => ?_)
                  refine lv_iconst (v := 0) hx hb dX3_payFor_140 (by decide) ?_
                  exact y_iret () hx hb hr hlocks hK hP hD hS hAe hQ rfl (Or.inl rfl) dX3_payFor_141
                · obtain ⟨rfl, f86⟩ := f86
                  refine lv_if_eq (tgt := 142) hx hb dX3_payFor_137 (by decide) (fun _ => ?_) (fun c => absurd (by decide) c)
                  obtain ⟨r87, h88⟩ : ∃ q : Int32, q = x1 + 1 := ⟨_, rfl⟩
                  have f89 : r87.toInt = x1.toInt + 1 := z_iadd h88 rfl (by decide) (by omega) (by omega)
                  refine lv_iinc (v := r87) (lv' := [(10, .int r87), (7, .long r75), (11, .long r32), (9, .int x2), (5, .long x4), (0, .ref h0), (1, .int p1), (2, .int p2), (3, .int p3), (4, .int p4)]) hx hb dX3_payFor_142 hl (k := 2) rfl h88.symm (by decide) rfl (fun ls hl => ?_)
                  refine lv_goto (tgt := 12) hx hb dX3_payFor_145 (by decide) ?_
                  exact ih9 r87 x2 r75 x4 (by omega) (by omega) (by omega) _ _ hP hD hS ls (lv_sub hl [0, 3, 1, 4, 5, 6, 7, 8, 9] rfl)
            · have f74 : r32.toInt = 0 := z_leq rfl (by decide) c_73
              refine lv_iconst (v := 0) hx hb dX3_payFor_79 (by decide) ?_
              exact y_iret () hx hb hr hlocks hK hP hD hS hAe hQ rfl (Or.inl rfl) dX3_payFor_80
        · have f36 : (h0_joint_f x1.toNatClampNeg).toInt = 2 := z_eq rfl (by decide) c_35
          refine lv_lload hx hb dX3_payFor_51 (lv_at hl 3 rfl) ?_
          refine lv_lload hx hb dX3_payFor_53 (lv_at hl 0 rfl) ?_
          refine lv_lmul hx hb dX3_payFor_55 ?_
          refine lv_topl (fun r90 _ => ?_)
          refine lv_lstore (lv' := [(7, .long r90), (11, .long r32), (10, .int x1), (9, .int x2), (5, .long x4), (0, .ref h0), (1, .int p1), (2, .int p2), (3, .int p3), (4, .int p4)]) hx hb dX3_payFor_56 hl (by decide) rfl (fun ls hl => ?_)
          refine lv_goto (tgt := 124) hx hb dX3_payFor_58 (by decide) ?_
          refine lv_lload hx hb dX3_payFor_124 (lv_at hl 0 rfl) ?_
          refine y_fini (w' := fun (u91 : Unit) => [(h0, .inr (3, [.int h0_lines, .int h0_laws, .int h0_sorts, .int h0_shares, .int h0_parts, .int h0_noise, .int h0_noiseTold, .ref h0_enter, .ref h0_leave, .ref h0_share, .ref h0_gift, .ref h0_wish, .ref h0_spread, .ref h0_leakBy, .ref h0_joint, .ref h0_part])), (h0_enter, .inl (cI, 6, .inl h0_enter_f)), (h0_leave, .inl (cI, 6, .inl h0_leave_f)), (h0_joint, .inl (cI, 120, .inl h0_joint_f)), (h0_part, .inl (cI, 120, .inl h0_part_f))]) (va_runS (As := [.long r90]) (rest := []) ⟨hx, hb, hml, hown, hts⟩ (k_X3_isTooFar l dC dI cB cI cJ cZ cP cQ H.size r90) (va_cwS 1 hts gX3_payFor_X3_isTooFar rfl rfl rfl (by decide +kernel) ⟨Nat.le_of_ble_eq_true rfl, Nat.le_of_ble_eq_true rfl⟩) (z_pS hK hP hD zX_nil [] (by decide) rfl) rfl rfl hl.1 rfl (lv_room (Nat.le_of_ble_eq_true rfl)) dX3_payFor_126 ⟨Nat.le_of_ble_eq_true rfl, Nat.le_of_ble_eq_true rfl⟩) hP hD hS hA [] [0, 1, 2, 3, 4] [0, 1, 2, 3, 4] rfl rfl (by decide) (by decide) (fun _ => rfl) (by decide) (fun r92 u91 H locs hp93 hP hD hS => ?_)
          have hP : va_P (dC, dI) vwCl [(h0, .inr (3, [.int h0_lines, .int h0_laws, .int h0_sorts, .int h0_shares, .int h0_parts, .int h0_noise, .int h0_noiseTold, .ref h0_enter, .ref h0_leave, .ref h0_share, .ref h0_gift, .ref h0_wish, .ref h0_spread, .ref h0_leakBy, .ref h0_joint, .ref h0_part])), (h0_enter, .inl (cI, 6, .inl h0_enter_f)), (h0_leave, .inl (cI, 6, .inl h0_leave_f)), (h0_joint, .inl (cI, 120, .inl h0_joint_f)), (h0_part, .inl (cI, 120, .inl h0_part_f))] H := hP
          have hD : va_D A [(h0, .inr (3, [.int h0_lines, .int h0_laws, .int h0_sorts, .int h0_shares, .int h0_parts, .int h0_noise, .int h0_noiseTold, .ref h0_enter, .ref h0_leave, .ref h0_share, .ref h0_gift, .ref h0_wish, .ref h0_spread, .ref h0_leakBy, .ref h0_joint, .ref h0_part])), (h0_enter, .inl (cI, 6, .inl h0_enter_f)), (h0_leave, .inl (cI, 6, .inl h0_leave_f)), (h0_joint, .inl (cI, 120, .inl h0_joint_f)), (h0_part, .inl (cI, 120, .inl h0_part_f))] := hD
          have hp93 : (r92 = 1 ∧ (1000000000 < r90.toInt ∨ (r90.toInt ≤ 1000000000 ∧ r90.toInt < (-1000000000)))) ∨ (r92 = 0 ∧ r90.toInt ≤ 1000000000 ∧ (-1000000000) ≤ r90.toInt) := hp93
          rcases hp93 with f94 | f95
          · obtain ⟨rfl, f94⟩ := f94
            refine lv_if_ne (tgt := 140) hx hb dX3_payFor_129 (by decide) (fun _ => ?_) (fun c => absurd c (by decide))
            refine lv_iconst (v := 0) hx hb dX3_payFor_140 (by decide) ?_
            exact y_iret () hx hb hr hlocks hK hP hD hS hAe hQ rfl (Or.inl rfl) dX3_payFor_141
          · obtain ⟨rfl, f95⟩ := f95
            refine lv_if_ne (tgt := 140) hx hb dX3_payFor_129 (by decide) (fun c => absurd (by decide) c) (fun _ => ?_)
            refine lv_lload hx hb dX3_payFor_132 (lv_at hl 4 rfl) ?_
            refine y_fini (w' := fun (u96 : Unit) => [(h0, .inr (3, [.int h0_lines, .int h0_laws, .int h0_sorts, .int h0_shares, .int h0_parts, .int h0_noise, .int h0_noiseTold, .ref h0_enter, .ref h0_leave, .ref h0_share, .ref h0_gift, .ref h0_wish, .ref h0_spread, .ref h0_leakBy, .ref h0_joint, .ref h0_part])), (h0_enter, .inl (cI, 6, .inl h0_enter_f)), (h0_leave, .inl (cI, 6, .inl h0_leave_f)), (h0_joint, .inl (cI, 120, .inl h0_joint_f)), (h0_part, .inl (cI, 120, .inl h0_part_f))]) (va_runS (As := [.long x4]) (rest := []) ⟨hx, hb, hml, hown, hts⟩ (k_X3_isTooFar l dC dI cB cI cJ cZ cP cQ H.size x4) (va_cwS 1 hts gX3_payFor_X3_isTooFar rfl rfl rfl (by decide +kernel) ⟨Nat.le_of_ble_eq_true rfl, Nat.le_of_ble_eq_true rfl⟩) (z_pS hK hP hD zX_nil [] (by decide) rfl) rfl rfl hl.1 rfl (lv_room (Nat.le_of_ble_eq_true rfl)) dX3_payFor_134 ⟨Nat.le_of_ble_eq_true rfl, Nat.le_of_ble_eq_true rfl⟩) hP hD hS hA [] [0, 1, 2, 3, 4] [0, 1, 2, 3, 4] rfl rfl (by decide) (by decide) (fun _ => rfl) (by decide) (fun r97 u96 H locs hp98 hP hD hS => ?_)
            have hP : va_P (dC, dI) vwCl [(h0, .inr (3, [.int h0_lines, .int h0_laws, .int h0_sorts, .int h0_shares, .int h0_parts, .int h0_noise, .int h0_noiseTold, .ref h0_enter, .ref h0_leave, .ref h0_share, .ref h0_gift, .ref h0_wish, .ref h0_spread, .ref h0_leakBy, .ref h0_joint, .ref h0_part])), (h0_enter, .inl (cI, 6, .inl h0_enter_f)), (h0_leave, .inl (cI, 6, .inl h0_leave_f)), (h0_joint, .inl (cI, 120, .inl h0_joint_f)), (h0_part, .inl (cI, 120, .inl h0_part_f))] H := hP
            have hD : va_D A [(h0, .inr (3, [.int h0_lines, .int h0_laws, .int h0_sorts, .int h0_shares, .int h0_parts, .int h0_noise, .int h0_noiseTold, .ref h0_enter, .ref h0_leave, .ref h0_share, .ref h0_gift, .ref h0_wish, .ref h0_spread, .ref h0_leakBy, .ref h0_joint, .ref h0_part])), (h0_enter, .inl (cI, 6, .inl h0_enter_f)), (h0_leave, .inl (cI, 6, .inl h0_leave_f)), (h0_joint, .inl (cI, 120, .inl h0_joint_f)), (h0_part, .inl (cI, 120, .inl h0_part_f))] := hD
            have hp98 : (r97 = 1 ∧ (1000000000 < x4.toInt ∨ (x4.toInt ≤ 1000000000 ∧ x4.toInt < (-1000000000)))) ∨ (r97 = 0 ∧ x4.toInt ≤ 1000000000 ∧ (-1000000000) ≤ x4.toInt) := hp98
            rcases hp98 with f99 | f100
            · obtain ⟨rfl, f99⟩ := f99
              refine lv_if_eq (tgt := 142) hx hb dX3_payFor_137 (by decide) (fun c => absurd c (by decide)) (fun _ => ?_)
              refine lv_iconst (v := 0) hx hb dX3_payFor_140 (by decide) ?_
              exact y_iret () hx hb hr hlocks hK hP hD hS hAe hQ rfl (Or.inl rfl) dX3_payFor_141
            · obtain ⟨rfl, f100⟩ := f100
              refine lv_if_eq (tgt := 142) hx hb dX3_payFor_137 (by decide) (fun _ => ?_) (fun c => absurd (by decide) c)
              obtain ⟨r101, h102⟩ : ∃ q : Int32, q = x1 + 1 := ⟨_, rfl⟩
              have f103 : r101.toInt = x1.toInt + 1 := z_iadd h102 rfl (by decide) (by omega) (by omega)
              refine lv_iinc (v := r101) (lv' := [(10, .int r101), (7, .long r90), (11, .long r32), (9, .int x2), (5, .long x4), (0, .ref h0), (1, .int p1), (2, .int p2), (3, .int p3), (4, .int p4)]) hx hb dX3_payFor_142 hl (k := 2) rfl h102.symm (by decide) rfl (fun ls hl => ?_)
              refine lv_goto (tgt := 12) hx hb dX3_payFor_145 (by decide) ?_
              exact ih9 r101 x2 r90 x4 (by omega) (by omega) (by omega) _ _ hP hD hS ls (lv_sub hl [0, 3, 1, 4, 5, 6, 7, 8, 9] rfl)
  exact hlp5 (h0_parts.toInt - (0 : Int) + 1).toNat 0 1 0 0 (by omega) (by omega) (by omega) _ _ hP hD hS ls (lv_sub hl [0, 1, 2, 3, 4, 5, 6, 7, 8] rfl)
