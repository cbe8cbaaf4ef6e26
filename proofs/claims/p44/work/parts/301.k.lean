set_option maxHeartbeats 8000000 in
set_option maxRecDepth 100000 in
theorem k_X3_sortAt (l : Launch) (dC : Nat → ClassId) (dI : Nat → Nat → Nat) (cB cI cJ cZ cP cQ : ClassId) (h0 : Nat) (h0_enter : Nat) (h0_leave : Nat) (h0_share : Nat) (h0_gift : Nat) (h0_wish : Nat) (h0_spread : Nat) (h0_leakBy : Nat) (h0_joint : Nat) (h0_part : Nat) (sz : Nat) (p1 : Int32) (h0_lines : Int32) (h0_laws : Int32) (h0_sorts : Int32) (h0_shares : Int32) (h0_parts : Int32) (h0_noise : Int32) (h0_noiseTold : Int32) (h0_share_f : Nat → Int32) (e0 : 0 ≤ h0_laws.toInt) (e1 : h0_laws.toInt ≤ 6) (e2 : 0 ≤ h0_sorts.toInt) (e3 : h0_sorts.toInt ≤ 8) (e4 : 0 ≤ h0_parts.toInt) (e5 : h0_parts.toInt ≤ 120) (e6 : 0 ≤ h0_noiseTold.toInt) (e7 : h0_noiseTold.toInt ≤ 1) : Met l yX3_sortAt wsX3_sortAt ({ frames := 0, cells := 0, slots := 0, locals := 0 } : Room) (zPc [.ref h0, .int p1] (dC, dI) (zT cB cI cJ cZ cP cQ) [(h0, .inr (3, [.int h0_lines, .int h0_laws, .int h0_sorts, .int h0_shares, .int h0_parts, .int h0_noise, .int h0_noiseTold, .ref h0_enter, .ref h0_leave, .ref h0_share, .ref h0_gift, .ref h0_wish, .ref h0_spread, .ref h0_leakBy, .ref h0_joint, .ref h0_part])), (h0_share, .inl (cI, 8, .inl h0_share_f))] sz [] []) (va_Qi (fun (r : Int32) (u : Unit) => (r = 0) ∨ (0 ≤ r.toInt ∧ r.toInt ≤ 7)) (zB (dC, dI) (zT cB cI cJ cZ cP cQ) (fun u : Unit => [(h0, .inr (3, [.int h0_lines, .int h0_laws, .int h0_sorts, .int h0_shares, .int h0_parts, .int h0_noise, .int h0_noiseTold, .ref h0_enter, .ref h0_leave, .ref h0_share, .ref h0_gift, .ref h0_wish, .ref h0_spread, .ref h0_leakBy, .ref h0_joint, .ref h0_part])), (h0_share, .inl (cI, 8, .inl h0_share_f))]) [(h0, .inr (3, [.int h0_lines, .int h0_laws, .int h0_sorts, .int h0_shares, .int h0_parts, .int h0_noise, .int h0_noiseTold, .ref h0_enter, .ref h0_leave, .ref h0_share, .ref h0_gift, .ref h0_wish, .ref h0_spread, .ref h0_leakBy, .ref h0_joint, .ref h0_part])), (h0_share, .inl (cI, 8, .inl h0_share_f))] sz) (va_A [(h0, .inr (3, [.int h0_lines, .int h0_laws, .int h0_sorts, .int h0_shares, .int h0_parts, .int h0_noise, .int h0_noiseTold, .ref h0_enter, .ref h0_leave, .ref h0_share, .ref h0_gift, .ref h0_wish, .ref h0_spread, .ref h0_leakBy, .ref h0_joint, .ref h0_part])), (h0_share, .inl (cI, 8, .inl h0_share_f))] sz)) 0 0 (va_A [(h0, .inr (3, [.int h0_lines, .int h0_laws, .int h0_sorts, .int h0_shares, .int h0_parts, .int h0_noise, .int h0_noiseTold, .ref h0_enter, .ref h0_leave, .ref h0_share, .ref h0_gift, .ref h0_wish, .ref h0_spread, .ref h0_leakBy, .ref h0_joint, .ref h0_part])), (h0_share, .inl (cI, 8, .inl h0_share_f))] sz) := by
  refine z_enter (cc := cX3_sortAt) (maxL := 4) (ret := (some .int)) (by decide) rfl (Nat.le_of_ble_eq_true rfl) ?_
  intro p e s m below meth c A ls Q H locs hx hb hr hml hown hts hlocks hin hK hP hD hA hX hS hAe hQ hl
  have hown : s.vm.findClass RX3 = some m.cls := hown
  have hi3 : ∀ w ∈ wsX30, w ∈ wsX3_sortAt := fun w h => List.mem_cons_of_mem _ (List.mem_append_right _ h)
  have hk0 := hts (.fieldLink RX3 52 "MonthPush$Land" "sorts" "I") (List.mem_of_getElem? (i := 1) rfl)
  have hk1 := hts (.fieldLink RX3 18 "MonthPush$Land" "share" "[I") (List.mem_of_getElem? (i := 2) rfl)
  have hl : lv_has ls 4 [(0, .ref h0), (1, .int p1)] := hl
  refine lv_iconst (v := 0) hx hb dX3_sortAt_0 (by decide) ?_
  refine lv_istore_n (lv' := [(2, .int 0), (0, .ref h0), (1, .int p1)]) hx hb dX3_sortAt_1 rfl hl (by decide) rfl (fun ls hl => ?_)
  refine lv_iconst (v := 0) hx hb dX3_sortAt_2 (by decide) ?_
  refine lv_istore_n (lv' := [(3, .int 0), (2, .int 0), (0, .ref h0), (1, .int p1)]) hx hb dX3_sortAt_3 rfl hl (by decide) rfl (fun ls hl => ?_)
  have hlp3 : ∀ (n4 : Nat) (x1 : Int32) (x2 : Int32), h0_sorts.toInt - x1.toInt < (n4 : Int) → 0 ≤ x1.toInt → x1.toInt ≤ h0_sorts.toInt → ∀ (H : Heap) (locs : List Loc), va_P (dC, dI) vwCl [(h0, .inr (3, [.int h0_lines, .int h0_laws, .int h0_sorts, .int h0_shares, .int h0_parts, .int h0_noise, .int h0_noiseTold, .ref h0_enter, .ref h0_leave, .ref h0_share, .ref h0_gift, .ref h0_wish, .ref h0_spread, .ref h0_leakBy, .ref h0_joint, .ref h0_part])), (h0_share, .inl (cI, 8, .inl h0_share_f))] H → va_D A [(h0, .inr (3, [.int h0_lines, .int h0_laws, .int h0_sorts, .int h0_shares, .int h0_parts, .int h0_noise, .int h0_noiseTold, .ref h0_enter, .ref h0_leave, .ref h0_share, .ref h0_gift, .ref h0_wish, .ref h0_spread, .ref h0_leakBy, .ref h0_joint, .ref h0_part])), (h0_share, .inl (cI, 8, .inl h0_share_f))] → va_S A s.heap H locs → ∀ (ls : Array Slot), lv_has ls 4 [(3, .int x1), (2, .int x2), (0, .ref h0), (1, .int p1)] → W p l e ({ frames := 0, cells := 0, slots := 0, locals := 0 } : Room) s m ([.ref h0, .int p1] : List Value).toArray below meth c H locs 0 0 Q (F0 m 4 ls []) := by
    intro n4
    induction n4 with
    | zero =>
      intro x1 x2 hm7 k5 k6
      exact absurd hm7 (by omega)
    | succ n4 ih8 =>
      intro x1 x2 hm7 k5 k6 H locs hP hD hS ls hl
      refine lv_iload_n hx hb dX3_sortAt_4 rfl (lv_at hl 0 rfl) ?_
      refine lv_aload_n hx hb dX3_sortAt_5 rfl (lv_at hl 2 rfl) ?_
      refine va_get (D := (dC, dI)) (ci := 3) (v := .int h0_sorts) (C := RX3) (T := TX3) (N := 16) hx hb hts hi3 hown hK hP 0 rfl rfl 2 (by decide) hk0 (fun _ h9 => h9) rfl dX3_sortAt_6 ?_
      refine lv_icmp_ge (tgt := 34) hx hb dX3_sortAt_9 (by decide) (fun c_9 => ?_) (fun c_9 => ?_)
      · have f10 : h0_sorts.toInt ≤ x1.toInt := z_le rfl rfl c_9
        refine lv_iconst (v := 0) hx hb dX3_sortAt_34 (by decide) ?_
        exact y_iret () hx hb hr hlocks hK hP hD hS hAe hQ rfl (Or.inl rfl) dX3_sortAt_35
      · have f10 : x1.toInt < h0_sorts.toInt := z_nle rfl rfl c_9
        refine lv_iload_n hx hb dX3_sortAt_12 rfl (lv_at hl 1 rfl) ?_
        refine lv_aload_n hx hb dX3_sortAt_13 rfl (lv_at hl 2 rfl) ?_
        refine va_get (D := (dC, dI)) (ci := 3) (v := .ref h0_share) (C := RX3) (T := TX3) (N := 16) hx hb hts hi3 hown hK hP 0 rfl rfl 9 (by decide) hk1 (fun _ h9 => h9) rfl dX3_sortAt_14 ?_
        refine lv_iload_n hx hb dX3_sortAt_17 rfl (lv_at hl 0 rfl) ?_
        refine va_iald hx hb hK hP 1 1 rfl rfl (z_in rfl (by omega) (by omega)) dX3_sortAt_18 ?_
        refine lv_iadd hx hb dX3_sortAt_19 ?_
        refine lv_topi (fun r11 _ => ?_)
        refine lv_istore_n (lv' := [(2, .int r11), (3, .int x1), (0, .ref h0), (1, .int p1)]) hx hb dX3_sortAt_20 rfl hl (by decide) rfl (fun ls hl => ?_)
        refine lv_iload_n hx hb dX3_sortAt_21 rfl (lv_at hl 0 rfl) ?_
        refine lv_iload_n hx hb dX3_sortAt_22 rfl (lv_at hl 3 rfl) ?_
        refine lv_icmp_le (tgt := 28) hx hb dX3_sortAt_23 (by decide) (fun c_12 => ?_) (fun c_12 => ?_)
        · have f13 : r11.toInt ≤ p1.toInt := z_le rfl rfl c_12
          obtain ⟨r14, h15⟩ : ∃ q : Int32, q = x1 + 1 := ⟨_, rfl⟩
          have f16 : r14.toInt = x1.toInt + 1 := z_iadd h15 rfl (by decide) (by omega) (by omega)
          refine lv_iinc (v := r14) (lv' := [(3, .int r14), (2, .int r11), (0, .ref h0), (1, .int p1)]) hx hb dX3_sortAt_28 hl (k := 1) rfl h15.symm (by decide) rfl (fun ls hl => ?_)
          refine lv_goto (tgt := 4) hx hb dX3_sortAt_31 (by decide) ?_
          exact ih8 r14 r11 (show h0_sorts.toInt - r14.toInt < (n4 : Int) from by omega) (show 0 ≤ r14.toInt from by omega) (show r14.toInt ≤ h0_sorts.toInt from by omega) _ _ hP hD hS ls (lv_sub hl [0, 1, 2, 3] rfl)
        · have f13 : p1.toInt < r11.toInt := z_nle rfl rfl c_12
          refine lv_iload_n hx hb dX3_sortAt_26 rfl (lv_at hl 1 rfl) ?_
          exact y_iret () hx hb hr hlocks hK hP hD hS hAe hQ rfl (Or.inr ⟨by omega, by omega⟩) dX3_sortAt_27
  exact hlp3 (h0_sorts.toInt - (0 : Int) + 1).toNat 0 0 (show h0_sorts.toInt - (0 : Int) < ((h0_sorts.toInt - (0 : Int) + 1).toNat : Int) from by omega) (show 0 ≤ (0 : Int) from by omega) (show (0 : Int) ≤ h0_sorts.toInt from by omega) _ _ hP hD hS ls (lv_sub hl [0, 1, 2, 3] rfl)
set_option maxHeartbeats 8000000 in
set_option maxRecDepth 100000 in
theorem k_X4_holds (l : Launch) (dC : Nat → ClassId) (dI : Nat → Nat → Nat) (cB cI cJ cZ cP cQ : ClassId) (h0 : Nat) (h0_numbers : Nat) (sz : Nat) (p1 : Int32) (p2 : Int32) (h0_width : Int32) (h0_n : Int32) (e0 : 0 ≤ h0_n.toInt) (e1 : h0_n.toInt ≤ 60) : Met l yX4_holds wsX4_holds ({ frames := 0, cells := 0, slots := 0, locals := 0 } : Room) (zPc [.ref h0, .int p1, .int p2] (dC, dI) (zT cB cI cJ cZ cP cQ) [(h0, .inr (4, [.int h0_width, .int h0_n, .ref h0_numbers]))] sz [] []) (va_Qi (fun (r : Int32) (u : Unit) => (r = 0 ∧ (p1.toInt < 0 ∨ (0 ≤ p1.toInt ∧ p2.toInt < 0) ∨ (0 ≤ p1.toInt ∧ 0 ≤ p2.toInt))) ∨ (r = 1 ∧ 0 ≤ p1.toInt ∧ 0 ≤ p2.toInt)) (zB (dC, dI) (zT cB cI cJ cZ cP cQ) (fun u : Unit => [(h0, .inr (4, [.int h0_width, .int h0_n, .ref h0_numbers]))]) [(h0, .inr (4, [.int h0_width, .int h0_n, .ref h0_numbers]))] sz) (va_A [(h0, .inr (4, [.int h0_width, .int h0_n, .ref h0_numbers]))] sz)) 0 0 (va_A [(h0, .inr (4, [.int h0_width, .int h0_n, .ref h0_numbers]))] sz) := by
  refine z_enter (cc := cX4_holds) (maxL := 3) (ret := (some .boolean)) (by decide) rfl (Nat.le_of_ble_eq_true rfl) ?_
  intro p e s m below meth c A ls Q H locs hx hb hr hml hown hts hlocks hin hK hP hD hA hX hS hAe hQ hl
  have hown : s.vm.findClass RX4 = some m.cls := hown
  have hi4 : ∀ w ∈ wsX40, w ∈ wsX4_holds := fun w h => List.mem_cons_of_mem _ (List.mem_append_right _ h)
  have hk0 := hts (.fieldLink RX4 19 "MonthPush$Row" "n" "I") (List.mem_of_getElem? (i := 1) rfl)
  have hl : lv_has ls 3 [(0, .ref h0), (1, .int p1), (2, .int p2)] := hl
  refine lv_iload_n hx hb dX4_holds_0 rfl (lv_at hl 1 rfl) ?_
  refine lv_if_lt (tgt := 26) hx hb dX4_holds_1 (by decide) (fun c_1 => ?_) (fun c_1 => ?_)
  · have f2 : p1.toInt < 0 := z_lt rfl (show Int32.toInt 0 = 0 from by decide) c_1
    refine lv_iconst (v := 0) hx hb dX4_holds_26 (by decide) ?_
    exact y_zret () hx hb hr hlocks hK hP hD hS hAe hQ rfl (Or.inl ⟨rfl, (Or.inl f2)⟩) (by decide) dX4_holds_27
  · have f2 : 0 ≤ p1.toInt := z_nlt rfl (show Int32.toInt 0 = 0 from by decide) c_1
    refine lv_iload_n hx hb dX4_holds_4 rfl (lv_at hl 2 rfl) ?_
    refine lv_if_lt (tgt := 26) hx hb dX4_holds_5 (by decide) (fun c_3 => ?_) (fun c_3 => ?_)
    · have f4 : p2.toInt < 0 := z_lt rfl (show Int32.toInt 0 = 0 from by decide) c_3
      refine lv_iconst (v := 0) hx hb dX4_holds_26 (by decide) ?_
      exact y_zret () hx hb hr hlocks hK hP hD hS hAe hQ rfl (Or.inl ⟨rfl, (Or.inr (Or.inl ⟨f2, f4⟩))⟩) (by decide) dX4_holds_27
    · have f4 : 0 ≤ p2.toInt := z_nlt rfl (show Int32.toInt 0 = 0 from by decide) c_3
      refine lv_iload_n hx hb dX4_holds_8 rfl (lv_at hl 1 rfl) ?_
      refine lv_i2l hx hb dX4_holds_9 rfl ?_
      have f5 : -2147483648 ≤ p1.toInt ∧ p1.toInt < 2147483648 := z_rngI rfl
      refine lv_topl (fun r6 h7 => ?_)
      have f8 : r6.toInt = p1.toInt := z_i2lT h7 rfl
      refine lv_iload_n hx hb dX4_holds_10 rfl (lv_at hl 2 rfl) ?_
      refine lv_i2l hx hb dX4_holds_11 rfl ?_
      have f9 : -2147483648 ≤ p2.toInt ∧ p2.toInt < 2147483648 := z_rngI rfl
      refine lv_topl (fun r10 h11 => ?_)
      have f12 : r10.toInt = p2.toInt := z_i2lT h11 rfl
      refine lv_ladd hx hb dX4_holds_12 ?_
      refine lv_topl (fun r13 _ => ?_)
      refine lv_aload_n hx hb dX4_holds_13 rfl (lv_at hl 0 rfl) ?_
      refine va_get (D := (dC, dI)) (ci := 4) (v := .int h0_n) (C := RX4) (T := TX4) (N := 3) hx hb hts hi4 hown hK hP 0 rfl rfl 1 (by decide) hk0 (fun _ h9 => h9) rfl dX4_holds_14 ?_
      refine lv_i2l hx hb dX4_holds_17 rfl ?_
      refine lv_topl (fun r14 h15 => ?_)
      have f16 : r14.toInt = h0_n.toInt := z_i2lT h15 rfl
      refine W.lcmp hx hb dX4_holds_18 ?_
      refine lv_if_gt (tgt := 26) hx hb dX4_holds_19 (by decide) (fun c_17 => ?_) (fun c_17 => ?_)
      · have f18 : r14.toInt < r13.toInt := z_lgt rfl rfl c_17
        refine lv_iconst (v := 0) hx hb dX4_holds_26 (by decide) ?_
        exact y_zret () hx hb hr hlocks hK hP hD hS hAe hQ rfl (Or.inl ⟨rfl, (Or.inr (Or.inr ⟨f2, f4⟩))⟩) (by decide) dX4_holds_27
      · have f18 : r13.toInt ≤ r14.toInt := z_lngt rfl rfl c_17
        refine lv_iconst (v := 1) hx hb dX4_holds_22 (by decide) ?_
        refine lv_goto (tgt := 27) hx hb dX4_holds_23 (by decide) ?_
        exact y_zret () hx hb hr hlocks hK hP hD hS hAe hQ rfl (Or.inr ⟨rfl, ⟨f2, f4⟩⟩) (by decide) dX4_holds_27
set_option maxHeartbeats 8000000 in
set_option maxRecDepth 100000 in
theorem k_X4_make (l : Launch) (dC : Nat → ClassId) (dI : Nat → Nat → Nat) (cB cI cJ cZ cP cQ : ClassId) (h0 : Nat) (h0_numbers : Nat) (sz : Nat) (p1 : Int32) (p2 : Int32) (h0_width : Int32) (h0_n : Int32) (h0_numbers_f : Nat → Int64) (e0 : 0 ≤ h0_n.toInt) (e1 : h0_n.toInt ≤ 60) : Met l yX4_make wsX4_make ({ frames := 1, cells := 0, slots := 0, locals := 24 } : Room) (zPc [.ref h0, .int p1, .int p2] (dC, dI) (zT cB cI cJ cZ cP cQ) [(h0, .inr (4, [.int h0_width, .int h0_n, .ref h0_numbers])), (h0_numbers, .inl (cJ, 60, .inr (.inl h0_numbers_f)))] sz [] []) (va_Qv (fun (u : Int32 × Int32 × (Nat → Int64)) => 0 ≤ u.2.1.toInt ∧ u.2.1.toInt ≤ 60 ∧ ((0 ≤ p2.toInt ∧ p2.toInt ≤ 60 ∧ u.1.toInt = p1.toInt ∧ u.2.1.toInt = p2.toInt) ∨ ((p2.toInt < 0 ∨ 60 < p2.toInt) ∧ u.1.toInt = h0_width.toInt ∧ u.2.1.toInt = h0_n.toInt))) (zB (dC, dI) (zT cB cI cJ cZ cP cQ) (fun u : Int32 × Int32 × (Nat → Int64) => [(h0, .inr (4, [.int u.1, .int u.2.1, .ref h0_numbers])), (h0_numbers, .inl (cJ, 60, .inr (.inl u.2.2)))]) [(h0, .inr (4, [.int h0_width, .int h0_n, .ref h0_numbers])), (h0_numbers, .inl (cJ, 60, .inr (.inl h0_numbers_f)))] sz) (va_A [(h0, .inr (4, [.int h0_width, .int h0_n, .ref h0_numbers])), (h0_numbers, .inl (cJ, 60, .inr (.inl h0_numbers_f)))] sz)) 0 0 (va_A [(h0, .inr (4, [.int h0_width, .int h0_n, .ref h0_numbers])), (h0_numbers, .inl (cJ, 60, .inr (.inl h0_numbers_f)))] sz) := by
  refine z_enter (cc := cX4_make) (maxL := 3) (ret := none) (by decide) rfl (Nat.le_of_ble_eq_true rfl) ?_
  intro p e s m below meth c A ls Q H locs hx hb hr hml hown hts hlocks hin hK hP hD hA hX hS hAe hQ hl
  have hown : s.vm.findClass RX4 = some m.cls := hown
  have hi4 : ∀ w ∈ wsX40, w ∈ wsX4_make := fun w h => List.mem_cons_of_mem _ (List.mem_append_right _ h)
  have hk0 := hts (.fieldLink RX4 9 "MonthPush$Row" "width" "I") (List.mem_of_getElem? (i := 1) rfl)
  have hk1 := hts (.fieldLink RX4 19 "MonthPush$Row" "n" "I") (List.mem_of_getElem? (i := 2) rfl)
  have hk2 := hts (.fieldLink RX4 15 "MonthPush$Row" "numbers" "[J") (List.mem_of_getElem? (i := 3) rfl)
  have hl : lv_has ls 3 [(0, .ref h0), (1, .int p1), (2, .int p2)] := hl
  refine lv_iload_n hx hb dX4_make_0 rfl (lv_at hl 2 rfl) ?_
  refine lv_if_lt (tgt := 28) hx hb dX4_make_1 (by decide) (fun c_1 => ?_) (fun c_1 => ?_)
  · have f2 : p2.toInt < 0 := z_lt rfl (show Int32.toInt 0 = 0 from by decide) c_1
    exact y_vret ((h0_width, h0_n, h0_numbers_f) : Int32 × Int32 × (Nat → Int64)) hx hb hr hlocks hK hP hD hS hAe hQ rfl ⟨(show 0 ≤ h0_n.toInt from by omega), (show h0_n.toInt ≤ 60 from by omega), (show (0 ≤ p2.toInt ∧ p2.toInt ≤ 60 ∧ h0_width.toInt = p1.toInt ∧ h0_n.toInt = p2.toInt) ∨ ((p2.toInt < 0 ∨ 60 < p2.toInt) ∧ h0_width.toInt = h0_width.toInt ∧ h0_n.toInt = h0_n.toInt) from by omega)⟩ dX4_make_28
  · have f2 : 0 ≤ p2.toInt := z_nlt rfl (show Int32.toInt 0 = 0 from by decide) c_1
    refine lv_iload_n hx hb dX4_make_4 rfl (lv_at hl 2 rfl) ?_
    refine lv_bipush (v := 60) hx hb dX4_make_5 (by decide) ?_
    refine lv_icmp_gt (tgt := 28) hx hb dX4_make_7 (by decide) (fun c_3 => ?_) (fun c_3 => ?_)
    · have f4 : 60 < p2.toInt := z_lt (show Int32.toInt 60 = 60 from by decide) rfl c_3
      exact y_vret ((h0_width, h0_n, h0_numbers_f) : Int32 × Int32 × (Nat → Int64)) hx hb hr hlocks hK hP hD hS hAe hQ rfl ⟨(show 0 ≤ h0_n.toInt from by omega), (show h0_n.toInt ≤ 60 from by omega), (show (0 ≤ p2.toInt ∧ p2.toInt ≤ 60 ∧ h0_width.toInt = p1.toInt ∧ h0_n.toInt = p2.toInt) ∨ ((p2.toInt < 0 ∨ 60 < p2.toInt) ∧ h0_width.toInt = h0_width.toInt ∧ h0_n.toInt = h0_n.toInt) from by omega)⟩ dX4_make_28
    · have f4 : p2.toInt ≤ 60 := z_nlt (show Int32.toInt 60 = 60 from by decide) rfl c_3
      refine lv_aload_n hx hb dX4_make_10 rfl (lv_at hl 0 rfl) ?_
      refine lv_iload_n hx hb dX4_make_11 rfl (lv_at hl 1 rfl) ?_
      refine va_put (D := (dC, dI)) (ci := 4) (v := .int p1) (ty := .int) (C := RX4) (T := TX4) (N := 3) hx hb hts hi4 tyX4 tyX4_ok nmX4 hown hK hP hD hS 0 rfl rfl 0 (by decide) hk0 (fun _ h9 => h9) rfl (by decide +kernel) rfl rfl (Nat.le_of_ble_eq_true rfl) dX4_make_12 (fun H locs hP hD hS => ?_)
      have hP : va_P (dC, dI) vwCl [(h0, .inr (4, [.int p1, .int h0_n, .ref h0_numbers])), (h0_numbers, .inl (cJ, 60, .inr (.inl h0_numbers_f)))] H := hP
      have hD : va_D A [(h0, .inr (4, [.int p1, .int h0_n, .ref h0_numbers])), (h0_numbers, .inl (cJ, 60, .inr (.inl h0_numbers_f)))] := hD
      refine lv_aload_n hx hb dX4_make_15 rfl (lv_at hl 0 rfl) ?_
      refine lv_iload_n hx hb dX4_make_16 rfl (lv_at hl 2 rfl) ?_
      refine va_put (D := (dC, dI)) (ci := 4) (v := .int p2) (ty := .int) (C := RX4) (T := TX4) (N := 3) hx hb hts hi4 tyX4 tyX4_ok nmX4 hown hK hP hD hS 0 rfl rfl 1 (by decide) hk1 (fun _ h9 => h9) rfl (by decide +kernel) rfl rfl (Nat.le_of_ble_eq_true rfl) dX4_make_17 (fun H locs hP hD hS => ?_)
      have hP : va_P (dC, dI) vwCl [(h0, .inr (4, [.int p1, .int p2, .ref h0_numbers])), (h0_numbers, .inl (cJ, 60, .inr (.inl h0_numbers_f)))] H := hP
      have hD : va_D A [(h0, .inr (4, [.int p1, .int p2, .ref h0_numbers])), (h0_numbers, .inl (cJ, 60, .inr (.inl h0_numbers_f)))] := hD
      refine lv_aload_n hx hb dX4_make_20 rfl (lv_at hl 0 rfl) ?_
      refine va_get (D := (dC, dI)) (ci := 4) (v := .ref h0_numbers) (C := RX4) (T := TX4) (N := 3) hx hb hts hi4 hown hK hP 0 rfl rfl 2 (by decide) hk2 (fun _ h9 => h9) rfl dX4_make_21 ?_
      refine lv_lconst (v := 0) hx hb dX4_make_24 (by decide) ?_
      refine z_finv (w' := fun (u5 : Unit) => [(h0, .inr (4, [.int p1, .int p2, .ref h0_numbers])), (h0_numbers, .inl (cJ, 60, .inr (.inl (fun _ => 0))))]) (va_runS (As := [.ref h0_numbers, .long 0]) (rest := []) ⟨hx, hb, hml, hown, hts⟩ (c_fillL l dC dI cB cI cJ cZ cP cQ h0_numbers H.size 60 h0_numbers_f 0 (by decide)) (va_cwS 2 hts gX4_make_J7_fill_d0a16 rfl rfl rfl hd_J7_fill_d0a16 ⟨Nat.le_of_ble_eq_true rfl, Nat.le_of_ble_eq_true rfl⟩) (z_pS hK hP hD zX_nil [1] (by decide) rfl) rfl rfl hl.1 rfl (lv_room (Nat.le_of_ble_eq_true rfl)) dX4_make_25 ⟨Nat.le_of_ble_eq_true rfl, Nat.le_of_ble_eq_true rfl⟩) hP hD hS hA [1] [0] [0, 1] rfl rfl (by decide) (by decide) (fun _ => rfl) (by decide) (fun u5 H locs hp7 hP hD hS => ?_)
      have hP : va_P (dC, dI) vwCl [(h0, .inr (4, [.int p1, .int p2, .ref h0_numbers])), (h0_numbers, .inl (cJ, 60, .inr (.inl (fun _ => 0))))] H := hP
      have hD : va_D A [(h0, .inr (4, [.int p1, .int p2, .ref h0_numbers])), (h0_numbers, .inl (cJ, 60, .inr (.inl (fun _ => 0))))] := hD
      obtain ⟨g8, h9⟩ : ∃ g : Nat → Int64, g = fun _ => 0 := ⟨_, rfl⟩
      rw [← h9] at hP hD
      exact y_vret ((p1, p2, g8) : Int32 × Int32 × (Nat → Int64)) hx hb hr hlocks hK hP hD hS hAe hQ rfl ⟨(show 0 ≤ p2.toInt from by omega), (show p2.toInt ≤ 60 from by omega), (show (0 ≤ p2.toInt ∧ p2.toInt ≤ 60 ∧ p1.toInt = p1.toInt ∧ p2.toInt = p2.toInt) ∨ ((p2.toInt < 0 ∨ 60 < p2.toInt) ∧ p1.toInt = h0_width.toInt ∧ p2.toInt = h0_n.toInt) from by omega)⟩ dX4_make_28
set_option maxHeartbeats 8000000 in
set_option maxRecDepth 100000 in
theorem k_X4_stands (l : Launch) (dC : Nat → ClassId) (dI : Nat → Nat → Nat) (cB cI cJ cZ cP cQ : ClassId) (h0 : Nat) (h0_numbers : Nat) (sz : Nat) (h0_width : Int32) (h0_n : Int32) (e0 : 0 ≤ h0_n.toInt) (e1 : h0_n.toInt ≤ 60) : Met l yX4_stands wsX4_stands ({ frames := 0, cells := 0, slots := 0, locals := 0 } : Room) (zPc [.ref h0] (dC, dI) (zT cB cI cJ cZ cP cQ) [(h0, .inr (4, [.int h0_width, .int h0_n, .ref h0_numbers]))] sz [] []) (va_Qi (fun (r : Int32) (u : Unit) => (r = 0 ∧ h0_width.toInt = (-1)) ∨ (r = 1 ∧ ¬ h0_width.toInt = (-1))) (zB (dC, dI) (zT cB cI cJ cZ cP cQ) (fun u : Unit => [(h0, .inr (4, [.int h0_width, .int h0_n, .ref h0_numbers]))]) [(h0, .inr (4, [.int h0_width, .int h0_n, .ref h0_numbers]))] sz) (va_A [(h0, .inr (4, [.int h0_width, .int h0_n, .ref h0_numbers]))] sz)) 0 0 (va_A [(h0, .inr (4, [.int h0_width, .int h0_n, .ref h0_numbers]))] sz) := by
  refine z_enter (cc := cX4_stands) (maxL := 1) (ret := (some .boolean)) (by decide) rfl (Nat.le_of_ble_eq_true rfl) ?_
  intro p e s m below meth c A ls Q H locs hx hb hr hml hown hts hlocks hin hK hP hD hA hX hS hAe hQ hl
  have hown : s.vm.findClass RX4 = some m.cls := hown
  have hi4 : ∀ w ∈ wsX40, w ∈ wsX4_stands := fun w h => List.mem_cons_of_mem _ (List.mem_append_right _ h)
  have hk0 := hts (.fieldLink RX4 9 "MonthPush$Row" "width" "I") (List.mem_of_getElem? (i := 1) rfl)
  have hl : lv_has ls 1 [(0, .ref h0)] := hl
  refine lv_aload_n hx hb dX4_stands_0 rfl (lv_at hl 0 rfl) ?_
  refine va_get (D := (dC, dI)) (ci := 4) (v := .int h0_width) (C := RX4) (T := TX4) (N := 3) hx hb hts hi4 hown hK hP 0 rfl rfl 0 (by decide) hk0 (fun _ h9 => h9) rfl dX4_stands_1 ?_
  refine lv_iconst (v := (-1)) hx hb dX4_stands_4 (by decide) ?_
  refine lv_icmp_eq (tgt := 12) hx hb dX4_stands_5 (by decide) (fun c_1 => ?_) (fun c_1 => ?_)
  · have f2 : h0_width.toInt = (-1) := z_eq rfl (show Int32.toInt (-1) = (-1) from by decide) c_1
    refine lv_iconst (v := 0) hx hb dX4_stands_12 (by decide) ?_
    exact y_zret () hx hb hr hlocks hK hP hD hS hAe hQ rfl (Or.inl ⟨rfl, f2⟩) (by decide) dX4_stands_13
  · have f2 : ¬ h0_width.toInt = (-1) := z_ne rfl (show Int32.toInt (-1) = (-1) from by decide) c_1
    refine lv_iconst (v := 1) hx hb dX4_stands_8 (by decide) ?_
    refine lv_goto (tgt := 13) hx hb dX4_stands_9 (by decide) ?_
    exact y_zret () hx hb hr hlocks hK hP hD hS hAe hQ rfl (Or.inr ⟨rfl, f2⟩) (by decide) dX4_stands_13
set_option maxHeartbeats 8000000 in
set_option maxRecDepth 100000 in
theorem k_X5_add (l : Launch) (dC : Nat → ClassId) (dI : Nat → Nat → Nat) (cB cI cJ cZ cP cQ : ClassId) (h0 : Nat) (h0_state : Nat) (h0_month : Nat) (h0_school : Nat) (h0_wage : Nat) (h0_gift : Nat) (h0_wish : Nat) (sz : Nat) (p1 : Int32) (p2 : Int32) (p3 : Int32) (p4 : Int32) (p5 : Int32) (p6 : Int32) (h0_n : Int32) (h0_state_f : Nat → Int32) (h0_month_f : Nat → Int32) (h0_school_f : Nat → Int32) (h0_wage_f : Nat → Int32) (h0_gift_f : Nat → Int32) (h0_wish_f : Nat → Int32) (e0 : 0 ≤ h0_n.toInt) (e1 : h0_n.toInt ≤ 200) (z_h0_school : zR 0 300 h0_school_f) (e3 : 0 ≤ p3.toInt) (e4 : p3.toInt ≤ 300) : Met l yX5_add wsX5_add ({ frames := 0, cells := 0, slots := 0, locals := 0 } : Room) (zPc [.ref h0, .int p1, .int p2, .int p3, .int p4, .int p5, .int p6] (dC, dI) (zT cB cI cJ cZ cP cQ) [(h0, .inr (5, [.int h0_n, .ref h0_state, .ref h0_month, .ref h0_school, .ref h0_wage, .ref h0_gift, .ref h0_wish])), (h0_state, .inl (cI, 200, .inl h0_state_f)), (h0_month, .inl (cI, 200, .inl h0_month_f)), (h0_school, .inl (cI, 200, .inl h0_school_f)), (h0_wage, .inl (cI, 200, .inl h0_wage_f)), (h0_gift, .inl (cI, 200, .inl h0_gift_f)), (h0_wish, .inl (cI, 200, .inl h0_wish_f))] sz [] []) (va_Qv (fun (u : Int32 × (Nat → Int32) × (Nat → Int32) × (Nat → Int32) × (Nat → Int32) × (Nat → Int32) × (Nat → Int32)) => 0 ≤ u.1.toInt ∧ u.1.toInt ≤ 200 ∧ zR 0 300 u.2.2.2.1) (zB (dC, dI) (zT cB cI cJ cZ cP cQ) (fun u : Int32 × (Nat → Int32) × (Nat → Int32) × (Nat → Int32) × (Nat → Int32) × (Nat → Int32) × (Nat → Int32) => [(h0, .inr (5, [.int u.1, .ref h0_state, .ref h0_month, .ref h0_school, .ref h0_wage, .ref h0_gift, .ref h0_wish])), (h0_state, .inl (cI, 200, .inl u.2.1)), (h0_month, .inl (cI, 200, .inl u.2.2.1)), (h0_school, .inl (cI, 200, .inl u.2.2.2.1)), (h0_wage, .inl (cI, 200, .inl u.2.2.2.2.1)), (h0_gift, .inl (cI, 200, .inl u.2.2.2.2.2.1)), (h0_wish, .inl (cI, 200, .inl u.2.2.2.2.2.2))]) [(h0, .inr (5, [.int h0_n, .ref h0_state, .ref h0_month, .ref h0_school, .ref h0_wage, .ref h0_gift, .ref h0_wish])), (h0_state, .inl (cI, 200, .inl h0_state_f)), (h0_month, .inl (cI, 200, .inl h0_month_f)), (h0_school, .inl (cI, 200, .inl h0_school_f)), (h0_wage, .inl (cI, 200, .inl h0_wage_f)), (h0_gift, .inl (cI, 200, .inl h0_gift_f)), (h0_wish, .inl (cI, 200, .inl h0_wish_f))] sz) (va_A [(h0, .inr (5, [.int h0_n, .ref h0_state, .ref h0_month, .ref h0_school, .ref h0_wage, .ref h0_gift, .ref h0_wish])), (h0_state, .inl (cI, 200, .inl h0_state_f)), (h0_month, .inl (cI, 200, .inl h0_month_f)), (h0_school, .inl (cI, 200, .inl h0_school_f)), (h0_wage, .inl (cI, 200, .inl h0_wage_f)), (h0_gift, .inl (cI, 200, .inl h0_gift_f)), (h0_wish, .inl (cI, 200, .inl h0_wish_f))] sz)) 0 0 (va_A [(h0, .inr (5, [.int h0_n, .ref h0_state, .ref h0_month, .ref h0_school, .ref h0_wage, .ref h0_gift, .ref h0_wish])), (h0_state, .inl (cI, 200, .inl h0_state_f)), (h0_month, .inl (cI, 200, .inl h0_month_f)), (h0_school, .inl (cI, 200, .inl h0_school_f)), (h0_wage, .inl (cI, 200, .inl h0_wage_f)), (h0_gift, .inl (cI, 200, .inl h0_gift_f)), (h0_wish, .inl (cI, 200, .inl h0_wish_f))] sz) := by
  refine z_enter (cc := cX5_add) (maxL := 7) (ret := none) (by decide) rfl (Nat.le_of_ble_eq_true rfl) ?_
  intro p e s m below meth c A ls Q H locs hx hb hr hml hown hts hlocks hin hK hP hD hA hX hS hAe hQ hl
  have hown : s.vm.findClass RX5 = some m.cls := hown
  have hi5 : ∀ w ∈ wsX50, w ∈ wsX5_add := fun w h => List.mem_cons_of_mem _ (List.mem_append_right _ h)
  have hk0 := hts (.fieldLink RX5 30 "MonthPush$Sheets" "n" "I") (List.mem_of_getElem? (i := 1) rfl)
  have hk1 := hts (.fieldLink RX5 9 "MonthPush$Sheets" "state" "[I") (List.mem_of_getElem? (i := 2) rfl)
  have hk2 := hts (.fieldLink RX5 15 "MonthPush$Sheets" "month" "[I") (List.mem_of_getElem? (i := 3) rfl)
  have hk3 := hts (.fieldLink RX5 18 "MonthPush$Sheets" "school" "[I") (List.mem_of_getElem? (i := 4) rfl)
  have hk4 := hts (.fieldLink RX5 21 "MonthPush$Sheets" "wage" "[I") (List.mem_of_getElem? (i := 5) rfl)
  have hk5 := hts (.fieldLink RX5 24 "MonthPush$Sheets" "gift" "[I") (List.mem_of_getElem? (i := 6) rfl)
  have hk6 := hts (.fieldLink RX5 27 "MonthPush$Sheets" "wish" "[I") (List.mem_of_getElem? (i := 7) rfl)
  have hl : lv_has ls 7 [(0, .ref h0), (1, .int p1), (2, .int p2), (3, .int p3), (4, .int p4), (5, .int p5), (6, .int p6)] := hl
  refine lv_aload_n hx hb dX5_add_0 rfl (lv_at hl 0 rfl) ?_
  refine va_get (D := (dC, dI)) (ci := 5) (v := .int h0_n) (C := RX5) (T := TX5) (N := 7) hx hb hts hi5 hown hK hP 0 rfl rfl 0 (by decide) hk0 (fun _ h9 => h9) rfl dX5_add_1 ?_
  refine lv_sipush (v := 200) hx hb dX5_add_4 (by decide) ?_
  refine lv_icmp_ge (tgt := 83) hx hb dX5_add_7 (by decide) (fun c_1 => ?_) (fun c_1 => ?_)
  · have f2 : 200 ≤ h0_n.toInt := z_le (show Int32.toInt 200 = 200 from by decide) rfl c_1
    exact y_vret ((h0_n, h0_state_f, h0_month_f, h0_school_f, h0_wage_f, h0_gift_f, h0_wish_f) : Int32 × (Nat → Int32) × (Nat → Int32) × (Nat → Int32) × (Nat → Int32) × (Nat → Int32) × (Nat → Int32)) hx hb hr hlocks hK hP hD hS hAe hQ rfl ⟨(show 0 ≤ h0_n.toInt from by omega), (show h0_n.toInt ≤ 200 from by omega), z_h0_school⟩ dX5_add_83
  · have f2 : h0_n.toInt < 200 := z_nle (show Int32.toInt 200 = 200 from by decide) rfl c_1
    refine lv_aload_n hx hb dX5_add_10 rfl (lv_at hl 0 rfl) ?_
    refine va_get (D := (dC, dI)) (ci := 5) (v := .ref h0_state) (C := RX5) (T := TX5) (N := 7) hx hb hts hi5 hown hK hP 0 rfl rfl 1 (by decide) hk1 (fun _ h9 => h9) rfl dX5_add_11 ?_
    refine lv_aload_n hx hb dX5_add_14 rfl (lv_at hl 0 rfl) ?_
    refine va_get (D := (dC, dI)) (ci := 5) (v := .int h0_n) (C := RX5) (T := TX5) (N := 7) hx hb hts hi5 hown hK hP 0 rfl rfl 0 (by decide) hk0 (fun _ h9 => h9) rfl dX5_add_15 ?_
    refine lv_iload_n hx hb dX5_add_18 rfl (lv_at hl 1 rfl) ?_
    refine y_iast hx hb hK hP hD hS 1 1 rfl rfl (z_in rfl (by omega) (by omega)) dX5_add_19 (fun H locs g3 h4 hP hD hS => ?_)
    have hP : va_P (dC, dI) vwCl [(h0, .inr (5, [.int h0_n, .ref h0_state, .ref h0_month, .ref h0_school, .ref h0_wage, .ref h0_gift, .ref h0_wish])), (h0_state, .inl (cI, 200, .inl g3)), (h0_month, .inl (cI, 200, .inl h0_month_f)), (h0_school, .inl (cI, 200, .inl h0_school_f)), (h0_wage, .inl (cI, 200, .inl h0_wage_f)), (h0_gift, .inl (cI, 200, .inl h0_gift_f)), (h0_wish, .inl (cI, 200, .inl h0_wish_f))] H := hP
    have hD : va_D A [(h0, .inr (5, [.int h0_n, .ref h0_state, .ref h0_month, .ref h0_school, .ref h0_wage, .ref h0_gift, .ref h0_wish])), (h0_state, .inl (cI, 200, .inl g3)), (h0_month, .inl (cI, 200, .inl h0_month_f)), (h0_school, .inl (cI, 200, .inl h0_school_f)), (h0_wage, .inl (cI, 200, .inl h0_wage_f)), (h0_gift, .inl (cI, 200, .inl h0_gift_f)), (h0_wish, .inl (cI, 200, .inl h0_wish_f))] := hD
    have f5 : (g3 h0_n.toNatClampNeg).toInt = p1.toInt := z_updT h4 rfl
    refine lv_aload_n hx hb dX5_add_20 rfl (lv_at hl 0 rfl) ?_
    refine va_get (D := (dC, dI)) (ci := 5) (v := .ref h0_month) (C := RX5) (T := TX5) (N := 7) hx hb hts hi5 hown hK hP 0 rfl rfl 2 (by decide) hk2 (fun _ h9 => h9) rfl dX5_add_21 ?_
    refine lv_aload_n hx hb dX5_add_24 rfl (lv_at hl 0 rfl) ?_
    refine va_get (D := (dC, dI)) (ci := 5) (v := .int h0_n) (C := RX5) (T := TX5) (N := 7) hx hb hts hi5 hown hK hP 0 rfl rfl 0 (by decide) hk0 (fun _ h9 => h9) rfl dX5_add_25 ?_
    refine lv_iload_n hx hb dX5_add_28 rfl (lv_at hl 2 rfl) ?_
    refine y_iast hx hb hK hP hD hS 2 1 rfl rfl (z_in rfl (by omega) (by omega)) dX5_add_29 (fun H locs g6 h7 hP hD hS => ?_)
    have hP : va_P (dC, dI) vwCl [(h0, .inr (5, [.int h0_n, .ref h0_state, .ref h0_month, .ref h0_school, .ref h0_wage, .ref h0_gift, .ref h0_wish])), (h0_state, .inl (cI, 200, .inl g3)), (h0_month, .inl (cI, 200, .inl g6)), (h0_school, .inl (cI, 200, .inl h0_school_f)), (h0_wage, .inl (cI, 200, .inl h0_wage_f)), (h0_gift, .inl (cI, 200, .inl h0_gift_f)), (h0_wish, .inl (cI, 200, .inl h0_wish_f))] H := hP
    have hD : va_D A [(h0, .inr (5, [.int h0_n, .ref h0_state, .ref h0_month, .ref h0_school, .ref h0_wage, .ref h0_gift, .ref h0_wish])), (h0_state, .inl (cI, 200, .inl g3)), (h0_month, .inl (cI, 200, .inl g6)), (h0_school, .inl (cI, 200, .inl h0_school_f)), (h0_wage, .inl (cI, 200, .inl h0_wage_f)), (h0_gift, .inl (cI, 200, .inl h0_gift_f)), (h0_wish, .inl (cI, 200, .inl h0_wish_f))] := hD
    have f8 : (g6 h0_n.toNatClampNeg).toInt = p2.toInt := z_updT h7 rfl
    refine lv_aload_n hx hb dX5_add_30 rfl (lv_at hl 0 rfl) ?_
    refine va_get (D := (dC, dI)) (ci := 5) (v := .ref h0_school) (C := RX5) (T := TX5) (N := 7) hx hb hts hi5 hown hK hP 0 rfl rfl 3 (by decide) hk3 (fun _ h9 => h9) rfl dX5_add_31 ?_
    refine lv_aload_n hx hb dX5_add_34 rfl (lv_at hl 0 rfl) ?_
    refine va_get (D := (dC, dI)) (ci := 5) (v := .int h0_n) (C := RX5) (T := TX5) (N := 7) hx hb hts hi5 hown hK hP 0 rfl rfl 0 (by decide) hk0 (fun _ h9 => h9) rfl dX5_add_35 ?_
    refine lv_iload_n hx hb dX5_add_38 rfl (lv_at hl 3 rfl) ?_
    refine y_iast hx hb hK hP hD hS 3 1 rfl rfl (z_in rfl (by omega) (by omega)) dX5_add_39 (fun H locs g9 h10 hP hD hS => ?_)
    have hP : va_P (dC, dI) vwCl [(h0, .inr (5, [.int h0_n, .ref h0_state, .ref h0_month, .ref h0_school, .ref h0_wage, .ref h0_gift, .ref h0_wish])), (h0_state, .inl (cI, 200, .inl g3)), (h0_month, .inl (cI, 200, .inl g6)), (h0_school, .inl (cI, 200, .inl g9)), (h0_wage, .inl (cI, 200, .inl h0_wage_f)), (h0_gift, .inl (cI, 200, .inl h0_gift_f)), (h0_wish, .inl (cI, 200, .inl h0_wish_f))] H := hP
    have hD : va_D A [(h0, .inr (5, [.int h0_n, .ref h0_state, .ref h0_month, .ref h0_school, .ref h0_wage, .ref h0_gift, .ref h0_wish])), (h0_state, .inl (cI, 200, .inl g3)), (h0_month, .inl (cI, 200, .inl g6)), (h0_school, .inl (cI, 200, .inl g9)), (h0_wage, .inl (cI, 200, .inl h0_wage_f)), (h0_gift, .inl (cI, 200, .inl h0_gift_f)), (h0_wish, .inl (cI, 200, .inl h0_wish_f))] := hD
    have z11 : zR 0 300 g9 := zR_upd h10 z_h0_school rfl (by omega) (by omega)
    have f12 : (g9 h0_n.toNatClampNeg).toInt = p3.toInt := z_updT h10 rfl
    refine lv_aload_n hx hb dX5_add_40 rfl (lv_at hl 0 rfl) ?_
    refine va_get (D := (dC, dI)) (ci := 5) (v := .ref h0_wage) (C := RX5) (T := TX5) (N := 7) hx hb hts hi5 hown hK hP 0 rfl rfl 4 (by decide) hk4 (fun _ h9 => h9) rfl dX5_add_41 ?_
    refine lv_aload_n hx hb dX5_add_44 rfl (lv_at hl 0 rfl) ?_
    refine va_get (D := (dC, dI)) (ci := 5) (v := .int h0_n) (C := RX5) (T := TX5) (N := 7) hx hb hts hi5 hown hK hP 0 rfl rfl 0 (by decide) hk0 (fun _ h9 => h9) rfl dX5_add_45 ?_
    refine lv_iload hx hb dX5_add_48 (lv_at hl 4 rfl) ?_
    refine y_iast hx hb hK hP hD hS 4 1 rfl rfl (z_in rfl (by omega) (by omega)) dX5_add_50 (fun H locs g13 h14 hP hD hS => ?_)
    have hP : va_P (dC, dI) vwCl [(h0, .inr (5, [.int h0_n, .ref h0_state, .ref h0_month, .ref h0_school, .ref h0_wage, .ref h0_gift, .ref h0_wish])), (h0_state, .inl (cI, 200, .inl g3)), (h0_month, .inl (cI, 200, .inl g6)), (h0_school, .inl (cI, 200, .inl g9)), (h0_wage, .inl (cI, 200, .inl g13)), (h0_gift, .inl (cI, 200, .inl h0_gift_f)), (h0_wish, .inl (cI, 200, .inl h0_wish_f))] H := hP
    have hD : va_D A [(h0, .inr (5, [.int h0_n, .ref h0_state, .ref h0_month, .ref h0_school, .ref h0_wage, .ref h0_gift, .ref h0_wish])), (h0_state, .inl (cI, 200, .inl g3)), (h0_month, .inl (cI, 200, .inl g6)), (h0_school, .inl (cI, 200, .inl g9)), (h0_wage, .inl (cI, 200, .inl g13)), (h0_gift, .inl (cI, 200, .inl h0_gift_f)), (h0_wish, .inl (cI, 200, .inl h0_wish_f))] := hD
    have f15 : (g13 h0_n.toNatClampNeg).toInt = p4.toInt := z_updT h14 rfl
    refine lv_aload_n hx hb dX5_add_51 rfl (lv_at hl 0 rfl) ?_
    refine va_get (D := (dC, dI)) (ci := 5) (v := .ref h0_gift) (C := RX5) (T := TX5) (N := 7) hx hb hts hi5 hown hK hP 0 rfl rfl 5 (by decide) hk5 (fun _ h9 => h9) rfl dX5_add_52 ?_
    refine lv_aload_n hx hb dX5_add_55 rfl (lv_at hl 0 rfl) ?_
    refine va_get (D := (dC, dI)) (ci := 5) (v := .int h0_n) (C := RX5) (T := TX5) (N := 7) hx hb hts hi5 hown hK hP 0 rfl rfl 0 (by decide) hk0 (fun _ h9 => h9) rfl dX5_add_56 ?_
    refine lv_iload hx hb dX5_add_59 (lv_at hl 5 rfl) ?_
    refine y_iast hx hb hK hP hD hS 5 1 rfl rfl (z_in rfl (by omega) (by omega)) dX5_add_61 (fun H locs g16 h17 hP hD hS => ?_)
    have hP : va_P (dC, dI) vwCl [(h0, .inr (5, [.int h0_n, .ref h0_state, .ref h0_month, .ref h0_school, .ref h0_wage, .ref h0_gift, .ref h0_wish])), (h0_state, .inl (cI, 200, .inl g3)), (h0_month, .inl (cI, 200, .inl g6)), (h0_school, .inl (cI, 200, .inl g9)), (h0_wage, .inl (cI, 200, .inl g13)), (h0_gift, .inl (cI, 200, .inl g16)), (h0_wish, .inl (cI, 200, .inl h0_wish_f))] H := hP
    have hD : va_D A [(h0, .inr (5, [.int h0_n, .ref h0_state, .ref h0_month, .ref h0_school, .ref h0_wage, .ref h0_gift, .ref h0_wish])), (h0_state, .inl (cI, 200, .inl g3)), (h0_month, .inl (cI, 200, .inl g6)), (h0_school, .inl (cI, 200, .inl g9)), (h0_wage, .inl (cI, 200, .inl g13)), (h0_gift, .inl (cI, 200, .inl g16)), (h0_wish, .inl (cI, 200, .inl h0_wish_f))] := hD
    have f18 : (g16 h0_n.toNatClampNeg).toInt = p5.toInt := z_updT h17 rfl
    refine lv_aload_n hx hb dX5_add_62 rfl (lv_at hl 0 rfl) ?_
    refine va_get (D := (dC, dI)) (ci := 5) (v := .ref h0_wish) (C := RX5) (T := TX5) (N := 7) hx hb hts hi5 hown hK hP 0 rfl rfl 6 (by decide) hk6 (fun _ h9 => h9) rfl dX5_add_63 ?_
    refine lv_aload_n hx hb dX5_add_66 rfl (lv_at hl 0 rfl) ?_
    refine va_get (D := (dC, dI)) (ci := 5) (v := .int h0_n) (C := RX5) (T := TX5) (N := 7) hx hb hts hi5 hown hK hP 0 rfl rfl 0 (by decide) hk0 (fun _ h9 => h9) rfl dX5_add_67 ?_
    refine lv_iload hx hb dX5_add_70 (lv_at hl 6 rfl) ?_
    refine y_iast hx hb hK hP hD hS 6 1 rfl rfl (z_in rfl (by omega) (by omega)) dX5_add_72 (fun H locs g19 h20 hP hD hS => ?_)
    have hP : va_P (dC, dI) vwCl [(h0, .inr (5, [.int h0_n, .ref h0_state, .ref h0_month, .ref h0_school, .ref h0_wage, .ref h0_gift, .ref h0_wish])), (h0_state, .inl (cI, 200, .inl g3)), (h0_month, .inl (cI, 200, .inl g6)), (h0_school, .inl (cI, 200, .inl g9)), (h0_wage, .inl (cI, 200, .inl g13)), (h0_gift, .inl (cI, 200, .inl g16)), (h0_wish, .inl (cI, 200, .inl g19))] H := hP
    have hD : va_D A [(h0, .inr (5, [.int h0_n, .ref h0_state, .ref h0_month, .ref h0_school, .ref h0_wage, .ref h0_gift, .ref h0_wish])), (h0_state, .inl (cI, 200, .inl g3)), (h0_month, .inl (cI, 200, .inl g6)), (h0_school, .inl (cI, 200, .inl g9)), (h0_wage, .inl (cI, 200, .inl g13)), (h0_gift, .inl (cI, 200, .inl g16)), (h0_wish, .inl (cI, 200, .inl g19))] := hD
    have f21 : (g19 h0_n.toNatClampNeg).toInt = p6.toInt := z_updT h20 rfl
    refine lv_aload_n hx hb dX5_add_73 rfl (lv_at hl 0 rfl) ?_
    refine lv_dup hx hb dX5_add_74 rfl ?_
    refine va_get (D := (dC, dI)) (ci := 5) (v := .int h0_n) (C := RX5) (T := TX5) (N := 7) hx hb hts hi5 hown hK hP 0 rfl rfl 0 (by decide) hk0 (fun _ h9 => h9) rfl dX5_add_75 ?_
    refine lv_iconst (v := 1) hx hb dX5_add_78 (by decide) ?_
    refine lv_iadd hx hb dX5_add_79 ?_
    refine lv_topi (fun r22 h23 => ?_)
    have f24 : r22.toInt = h0_n.toInt + 1 := z_iadd h23 rfl (show Int32.toInt 1 = 1 from by decide) (by omega) (by omega)
    refine va_put (D := (dC, dI)) (ci := 5) (v := .int r22) (ty := .int) (C := RX5) (T := TX5) (N := 7) hx hb hts hi5 tyX5 tyX5_ok nmX5 hown hK hP hD hS 0 rfl rfl 0 (by decide) hk0 (fun _ h9 => h9) rfl (by decide +kernel) rfl rfl (Nat.le_of_ble_eq_true rfl) dX5_add_80 (fun H locs hP hD hS => ?_)
    have hP : va_P (dC, dI) vwCl [(h0, .inr (5, [.int r22, .ref h0_state, .ref h0_month, .ref h0_school, .ref h0_wage, .ref h0_gift, .ref h0_wish])), (h0_state, .inl (cI, 200, .inl g3)), (h0_month, .inl (cI, 200, .inl g6)), (h0_school, .inl (cI, 200, .inl g9)), (h0_wage, .inl (cI, 200, .inl g13)), (h0_gift, .inl (cI, 200, .inl g16)), (h0_wish, .inl (cI, 200, .inl g19))] H := hP
    have hD : va_D A [(h0, .inr (5, [.int r22, .ref h0_state, .ref h0_month, .ref h0_school, .ref h0_wage, .ref h0_gift, .ref h0_wish])), (h0_state, .inl (cI, 200, .inl g3)), (h0_month, .inl (cI, 200, .inl g6)), (h0_school, .inl (cI, 200, .inl g9)), (h0_wage, .inl (cI, 200, .inl g13)), (h0_gift, .inl (cI, 200, .inl g16)), (h0_wish, .inl (cI, 200, .inl g19))] := hD
    exact y_vret ((r22, g3, g6, g9, g13, g16, g19) : Int32 × (Nat → Int32) × (Nat → Int32) × (Nat → Int32) × (Nat → Int32) × (Nat → Int32) × (Nat → Int32)) hx hb hr hlocks hK hP hD hS hAe hQ rfl ⟨(show 0 ≤ r22.toInt from by omega), (show r22.toInt ≤ 200 from by omega), z11⟩ dX5_add_83
set_option maxHeartbeats 8000000 in
set_option maxRecDepth 100000 in
theorem k_X5_copyOf (l : Launch) (dC : Nat → ClassId) (dI : Nat → Nat → Nat) (cB cI cJ cZ cP cQ : ClassId) (h0 : Nat) (h1 : Nat) (h0_state : Nat) (h0_month : Nat) (h0_school : Nat) (h0_wage : Nat) (h0_gift : Nat) (h0_wish : Nat) (h1_state : Nat) (h1_month : Nat) (h1_school : Nat) (h1_wage : Nat) (h1_gift : Nat) (h1_wish : Nat) (sz : Nat) (h0_n : Int32) (h0_state_f : Nat → Int32) (h0_month_f : Nat → Int32) (h0_school_f : Nat → Int32) (h0_wage_f : Nat → Int32) (h0_gift_f : Nat → Int32) (h0_wish_f : Nat → Int32) (h1_n : Int32) (h1_state_f : Nat → Int32) (h1_month_f : Nat → Int32) (h1_school_f : Nat → Int32) (h1_wage_f : Nat → Int32) (h1_gift_f : Nat → Int32) (h1_wish_f : Nat → Int32) (e0 : 0 ≤ h0_n.toInt) (e1 : h0_n.toInt ≤ 200) (z_h0_school : zR 0 300 h0_school_f) (e3 : 0 ≤ h1_n.toInt) (e4 : h1_n.toInt ≤ 200) (z_h1_school : zR 0 300 h1_school_f) : Met l yX5_copyOf wsX5_copyOf ({ frames := 1, cells := 0, slots := 0, locals := 80 } : Room) (zPc [.ref h0, .ref h1] (dC, dI) (zT cB cI cJ cZ cP cQ) [(h0, .inr (5, [.int h0_n, .ref h0_state, .ref h0_month, .ref h0_school, .ref h0_wage, .ref h0_gift, .ref h0_wish])), (h0_state, .inl (cI, 200, .inl h0_state_f)), (h0_month, .inl (cI, 200, .inl h0_month_f)), (h0_school, .inl (cI, 200, .inl h0_school_f)), (h0_wage, .inl (cI, 200, .inl h0_wage_f)), (h0_gift, .inl (cI, 200, .inl h0_gift_f)), (h0_wish, .inl (cI, 200, .inl h0_wish_f)), (h1, .inr (5, [.int h1_n, .ref h1_state, .ref h1_month, .ref h1_school, .ref h1_wage, .ref h1_gift, .ref h1_wish])), (h1_state, .inl (cI, 200, .inl h1_state_f)), (h1_month, .inl (cI, 200, .inl h1_month_f)), (h1_school, .inl (cI, 200, .inl h1_school_f)), (h1_wage, .inl (cI, 200, .inl h1_wage_f)), (h1_gift, .inl (cI, 200, .inl h1_gift_f)), (h1_wish, .inl (cI, 200, .inl h1_wish_f))] sz [] []) (va_Qv (fun (u : Int32 × (Nat → Int32) × (Nat → Int32) × (Nat → Int32) × (Nat → Int32) × (Nat → Int32) × (Nat → Int32)) => 0 ≤ u.1.toInt ∧ u.1.toInt ≤ 200 ∧ zR 0 300 u.2.2.2.1) (zB (dC, dI) (zT cB cI cJ cZ cP cQ) (fun u : Int32 × (Nat → Int32) × (Nat → Int32) × (Nat → Int32) × (Nat → Int32) × (Nat → Int32) × (Nat → Int32) => [(h0, .inr (5, [.int u.1, .ref h0_state, .ref h0_month, .ref h0_school, .ref h0_wage, .ref h0_gift, .ref h0_wish])), (h0_state, .inl (cI, 200, .inl u.2.1)), (h0_month, .inl (cI, 200, .inl u.2.2.1)), (h0_school, .inl (cI, 200, .inl u.2.2.2.1)), (h0_wage, .inl (cI, 200, .inl u.2.2.2.2.1)), (h0_gift, .inl (cI, 200, .inl u.2.2.2.2.2.1)), (h0_wish, .inl (cI, 200, .inl u.2.2.2.2.2.2)), (h1, .inr (5, [.int h1_n, .ref h1_state, .ref h1_month, .ref h1_school, .ref h1_wage, .ref h1_gift, .ref h1_wish])), (h1_state, .inl (cI, 200, .inl h1_state_f)), (h1_month, .inl (cI, 200, .inl h1_month_f)), (h1_school, .inl (cI, 200, .inl h1_school_f)), (h1_wage, .inl (cI, 200, .inl h1_wage_f)), (h1_gift, .inl (cI, 200, .inl h1_gift_f)), (h1_wish, .inl (cI, 200, .inl h1_wish_f))]) [(h0, .inr (5, [.int h0_n, .ref h0_state, .ref h0_month, .ref h0_school, .ref h0_wage, .ref h0_gift, .ref h0_wish])), (h0_state, .inl (cI, 200, .inl h0_state_f)), (h0_month, .inl (cI, 200, .inl h0_month_f)), (h0_school, .inl (cI, 200, .inl h0_school_f)), (h0_wage, .inl (cI, 200, .inl h0_wage_f)), (h0_gift, .inl (cI, 200, .inl h0_gift_f)), (h0_wish, .inl (cI, 200, .inl h0_wish_f)), (h1, .inr (5, [.int h1_n, .ref h1_state, .ref h1_month, .ref h1_school, .ref h1_wage, .ref h1_gift, .ref h1_wish])), (h1_state, .inl (cI, 200, .inl h1_state_f)), (h1_month, .inl (cI, 200, .inl h1_month_f)), (h1_school, .inl (cI, 200, .inl h1_school_f)), (h1_wage, .inl (cI, 200, .inl h1_wage_f)), (h1_gift, .inl (cI, 200, .inl h1_gift_f)), (h1_wish, .inl (cI, 200, .inl h1_wish_f))] sz) (va_A [(h0, .inr (5, [.int h0_n, .ref h0_state, .ref h0_month, .ref h0_school, .ref h0_wage, .ref h0_gift, .ref h0_wish])), (h0_state, .inl (cI, 200, .inl h0_state_f)), (h0_month, .inl (cI, 200, .inl h0_month_f)), (h0_school, .inl (cI, 200, .inl h0_school_f)), (h0_wage, .inl (cI, 200, .inl h0_wage_f)), (h0_gift, .inl (cI, 200, .inl h0_gift_f)), (h0_wish, .inl (cI, 200, .inl h0_wish_f)), (h1, .inr (5, [.int h1_n, .ref h1_state, .ref h1_month, .ref h1_school, .ref h1_wage, .ref h1_gift, .ref h1_wish])), (h1_state, .inl (cI, 200, .inl h1_state_f)), (h1_month, .inl (cI, 200, .inl h1_month_f)), (h1_school, .inl (cI, 200, .inl h1_school_f)), (h1_wage, .inl (cI, 200, .inl h1_wage_f)), (h1_gift, .inl (cI, 200, .inl h1_gift_f)), (h1_wish, .inl (cI, 200, .inl h1_wish_f))] sz)) 0 0 (va_A [(h0, .inr (5, [.int h0_n, .ref h0_state, .ref h0_month, .ref h0_school, .ref h0_wage, .ref h0_gift, .ref h0_wish])), (h0_state, .inl (cI, 200, .inl h0_state_f)), (h0_month, .inl (cI, 200, .inl h0_month_f)), (h0_school, .inl (cI, 200, .inl h0_school_f)), (h0_wage, .inl (cI, 200, .inl h0_wage_f)), (h0_gift, .inl (cI, 200, .inl h0_gift_f)), (h0_wish, .inl (cI, 200, .inl h0_wish_f)), (h1, .inr (5, [.int h1_n, .ref h1_state, .ref h1_month, .ref h1_school, .ref h1_wage, .ref h1_gift, .ref h1_wish])), (h1_state, .inl (cI, 200, .inl h1_state_f)), (h1_month, .inl (cI, 200, .inl h1_month_f)), (h1_school, .inl (cI, 200, .inl h1_school_f)), (h1_wage, .inl (cI, 200, .inl h1_wage_f)), (h1_gift, .inl (cI, 200, .inl h1_gift_f)), (h1_wish, .inl (cI, 200, .inl h1_wish_f))] sz) := by
  refine z_enter (cc := cX5_copyOf) (maxL := 2) (ret := none) (by decide) rfl (Nat.le_of_ble_eq_true rfl) ?_
  intro p e s m below meth c A ls Q H locs hx hb hr hml hown hts hlocks hin hK hP hD hA hX hS hAe hQ hl
  have hown : s.vm.findClass RX5 = some m.cls := hown
  have hi5 : ∀ w ∈ wsX50, w ∈ wsX5_copyOf := fun w h => List.mem_cons_of_mem _ (List.mem_append_right _ h)
  have hk0 := hts (.fieldLink RX5 30 "MonthPush$Sheets" "n" "I") (List.mem_of_getElem? (i := 1) rfl)
  have hk1 := hts (.fieldLink RX5 9 "MonthPush$Sheets" "state" "[I") (List.mem_of_getElem? (i := 2) rfl)
  have hk2 := hts (.methodLink RX5 38 arraycopyName) (List.mem_of_getElem? (i := 3) rfl)
  have hk3 := hts (.native arraycopyName) (List.mem_of_getElem? (i := 4) rfl)
  have hk4 := hts (.static arraycopyName) (List.mem_of_getElem? (i := 5) rfl)
  have hk5 := hts (.initialized "java/lang/System") (List.mem_of_getElem? (i := 6) rfl)
  have hk6 := hts (.fieldLink RX5 15 "MonthPush$Sheets" "month" "[I") (List.mem_of_getElem? (i := 7) rfl)
  have hk7 := hts (.fieldLink RX5 18 "MonthPush$Sheets" "school" "[I") (List.mem_of_getElem? (i := 8) rfl)
  have hk8 := hts (.fieldLink RX5 21 "MonthPush$Sheets" "wage" "[I") (List.mem_of_getElem? (i := 9) rfl)
  have hk9 := hts (.fieldLink RX5 24 "MonthPush$Sheets" "gift" "[I") (List.mem_of_getElem? (i := 10) rfl)
  have hk10 := hts (.fieldLink RX5 27 "MonthPush$Sheets" "wish" "[I") (List.mem_of_getElem? (i := 11) rfl)
  have hl : lv_has ls 2 [(0, .ref h0), (1, .ref h1)] := hl
  refine lv_aload_n hx hb dX5_copyOf_0 rfl (lv_at hl 0 rfl) ?_
  refine lv_aload_n hx hb dX5_copyOf_1 rfl (lv_at hl 1 rfl) ?_
  refine va_get (D := (dC, dI)) (ci := 5) (v := .int h1_n) (C := RX5) (T := TX5) (N := 7) hx hb hts hi5 hown hK hP 7 rfl rfl 0 (by decide) hk0 (fun _ h9 => h9) rfl dX5_copyOf_2 ?_
  refine va_put (D := (dC, dI)) (ci := 5) (v := .int h1_n) (ty := .int) (C := RX5) (T := TX5) (N := 7) hx hb hts hi5 tyX5 tyX5_ok nmX5 hown hK hP hD hS 0 rfl rfl 0 (by decide) hk0 (fun _ h9 => h9) rfl (by decide +kernel) rfl rfl (Nat.le_of_ble_eq_true rfl) dX5_copyOf_5 (fun H locs hP hD hS => ?_)
  have hP : va_P (dC, dI) vwCl [(h0, .inr (5, [.int h1_n, .ref h0_state, .ref h0_month, .ref h0_school, .ref h0_wage, .ref h0_gift, .ref h0_wish])), (h0_state, .inl (cI, 200, .inl h0_state_f)), (h0_month, .inl (cI, 200, .inl h0_month_f)), (h0_school, .inl (cI, 200, .inl h0_school_f)), (h0_wage, .inl (cI, 200, .inl h0_wage_f)), (h0_gift, .inl (cI, 200, .inl h0_gift_f)), (h0_wish, .inl (cI, 200, .inl h0_wish_f)), (h1, .inr (5, [.int h1_n, .ref h1_state, .ref h1_month, .ref h1_school, .ref h1_wage, .ref h1_gift, .ref h1_wish])), (h1_state, .inl (cI, 200, .inl h1_state_f)), (h1_month, .inl (cI, 200, .inl h1_month_f)), (h1_school, .inl (cI, 200, .inl h1_school_f)), (h1_wage, .inl (cI, 200, .inl h1_wage_f)), (h1_gift, .inl (cI, 200, .inl h1_gift_f)), (h1_wish, .inl (cI, 200, .inl h1_wish_f))] H := hP
  have hD : va_D A [(h0, .inr (5, [.int h1_n, .ref h0_state, .ref h0_month, .ref h0_school, .ref h0_wage, .ref h0_gift, .ref h0_wish])), (h0_state, .inl (cI, 200, .inl h0_state_f)), (h0_month, .inl (cI, 200, .inl h0_month_f)), (h0_school, .inl (cI, 200, .inl h0_school_f)), (h0_wage, .inl (cI, 200, .inl h0_wage_f)), (h0_gift, .inl (cI, 200, .inl h0_gift_f)), (h0_wish, .inl (cI, 200, .inl h0_wish_f)), (h1, .inr (5, [.int h1_n, .ref h1_state, .ref h1_month, .ref h1_school, .ref h1_wage, .ref h1_gift, .ref h1_wish])), (h1_state, .inl (cI, 200, .inl h1_state_f)), (h1_month, .inl (cI, 200, .inl h1_month_f)), (h1_school, .inl (cI, 200, .inl h1_school_f)), (h1_wage, .inl (cI, 200, .inl h1_wage_f)), (h1_gift, .inl (cI, 200, .inl h1_gift_f)), (h1_wish, .inl (cI, 200, .inl h1_wish_f))] := hD
  refine lv_aload_n hx hb dX5_copyOf_8 rfl (lv_at hl 1 rfl) ?_
  refine va_get (D := (dC, dI)) (ci := 5) (v := .ref h1_state) (C := RX5) (T := TX5) (N := 7) hx hb hts hi5 hown hK hP 7 rfl rfl 1 (by decide) hk1 (fun _ h9 => h9) rfl dX5_copyOf_9 ?_
  refine lv_iconst (v := 0) hx hb dX5_copyOf_12 (by decide) ?_
  refine lv_aload_n hx hb dX5_copyOf_13 rfl (lv_at hl 0 rfl) ?_
  refine va_get (D := (dC, dI)) (ci := 5) (v := .ref h0_state) (C := RX5) (T := TX5) (N := 7) hx hb hts hi5 hown hK hP 0 rfl rfl 1 (by decide) hk1 (fun _ h9 => h9) rfl dX5_copyOf_14 ?_
  refine lv_iconst (v := 0) hx hb dX5_copyOf_17 (by decide) ?_
  refine lv_aload_n hx hb dX5_copyOf_18 rfl (lv_at hl 0 rfl) ?_
  refine va_get (D := (dC, dI)) (ci := 5) (v := .int h1_n) (C := RX5) (T := TX5) (N := 7) hx hb hts hi5 hown hK hP 0 rfl rfl 0 (by decide) hk0 (fun _ h9 => h9) rfl dX5_copyOf_19 ?_
  refine y_copyi hx hb (by rw [hml]; exact hl.1.symm) hown hk2 hk3 hk4 hk5 hK hP hD hS 8 1 1 1 rfl rfl rfl rfl rfl (by decide) (by decide) (z_nn rfl (by omega)) (z_fit2 (show Int32.toInt 0 = 0 from by decide) rfl (by omega) (by omega) (by omega)) (z_fit2 (show Int32.toInt 0 = 0 from by decide) rfl (by omega) (by omega) (by omega)) (fun _ _ => rfl) (Nat.le_of_ble_eq_true rfl) (Nat.le_of_ble_eq_true rfl) dX5_copyOf_22 (fun H locs g1 h2 hP hD hS => ?_)
  have hP : va_P (dC, dI) vwCl [(h0, .inr (5, [.int h1_n, .ref h0_state, .ref h0_month, .ref h0_school, .ref h0_wage, .ref h0_gift, .ref h0_wish])), (h0_state, .inl (cI, 200, .inl g1)), (h0_month, .inl (cI, 200, .inl h0_month_f)), (h0_school, .inl (cI, 200, .inl h0_school_f)), (h0_wage, .inl (cI, 200, .inl h0_wage_f)), (h0_gift, .inl (cI, 200, .inl h0_gift_f)), (h0_wish, .inl (cI, 200, .inl h0_wish_f)), (h1, .inr (5, [.int h1_n, .ref h1_state, .ref h1_month, .ref h1_school, .ref h1_wage, .ref h1_gift, .ref h1_wish])), (h1_state, .inl (cI, 200, .inl h1_state_f)), (h1_month, .inl (cI, 200, .inl h1_month_f)), (h1_school, .inl (cI, 200, .inl h1_school_f)), (h1_wage, .inl (cI, 200, .inl h1_wage_f)), (h1_gift, .inl (cI, 200, .inl h1_gift_f)), (h1_wish, .inl (cI, 200, .inl h1_wish_f))] H := hP
  have hD : va_D A [(h0, .inr (5, [.int h1_n, .ref h0_state, .ref h0_month, .ref h0_school, .ref h0_wage, .ref h0_gift, .ref h0_wish])), (h0_state, .inl (cI, 200, .inl g1)), (h0_month, .inl (cI, 200, .inl h0_month_f)), (h0_school, .inl (cI, 200, .inl h0_school_f)), (h0_wage, .inl (cI, 200, .inl h0_wage_f)), (h0_gift, .inl (cI, 200, .inl h0_gift_f)), (h0_wish, .inl (cI, 200, .inl h0_wish_f)), (h1, .inr (5, [.int h1_n, .ref h1_state, .ref h1_month, .ref h1_school, .ref h1_wage, .ref h1_gift, .ref h1_wish])), (h1_state, .inl (cI, 200, .inl h1_state_f)), (h1_month, .inl (cI, 200, .inl h1_month_f)), (h1_school, .inl (cI, 200, .inl h1_school_f)), (h1_wage, .inl (cI, 200, .inl h1_wage_f)), (h1_gift, .inl (cI, 200, .inl h1_gift_f)), (h1_wish, .inl (cI, 200, .inl h1_wish_f))] := hD
  refine lv_aload_n hx hb dX5_copyOf_25 rfl (lv_at hl 1 rfl) ?_
  refine va_get (D := (dC, dI)) (ci := 5) (v := .ref h1_month) (C := RX5) (T := TX5) (N := 7) hx hb hts hi5 hown hK hP 7 rfl rfl 2 (by decide) hk6 (fun _ h9 => h9) rfl dX5_copyOf_26 ?_
  refine lv_iconst (v := 0) hx hb dX5_copyOf_29 (by decide) ?_
  refine lv_aload_n hx hb dX5_copyOf_30 rfl (lv_at hl 0 rfl) ?_
  refine va_get (D := (dC, dI)) (ci := 5) (v := .ref h0_month) (C := RX5) (T := TX5) (N := 7) hx hb hts hi5 hown hK hP 0 rfl rfl 2 (by decide) hk6 (fun _ h9 => h9) rfl dX5_copyOf_31 ?_
  refine lv_iconst (v := 0) hx hb dX5_copyOf_34 (by decide) ?_
  refine lv_aload_n hx hb dX5_copyOf_35 rfl (lv_at hl 0 rfl) ?_
  refine va_get (D := (dC, dI)) (ci := 5) (v := .int h1_n) (C := RX5) (T := TX5) (N := 7) hx hb hts hi5 hown hK hP 0 rfl rfl 0 (by decide) hk0 (fun _ h9 => h9) rfl dX5_copyOf_36 ?_
  refine y_copyi hx hb (by rw [hml]; exact hl.1.symm) hown hk2 hk3 hk4 hk5 hK hP hD hS 9 2 1 1 rfl rfl rfl rfl rfl (by decide) (by decide) (z_nn rfl (by omega)) (z_fit2 (show Int32.toInt 0 = 0 from by decide) rfl (by omega) (by omega) (by omega)) (z_fit2 (show Int32.toInt 0 = 0 from by decide) rfl (by omega) (by omega) (by omega)) (fun _ _ => rfl) (Nat.le_of_ble_eq_true rfl) (Nat.le_of_ble_eq_true rfl) dX5_copyOf_39 (fun H locs g3 h4 hP hD hS => ?_)
  have hP : va_P (dC, dI) vwCl [(h0, .inr (5, [.int h1_n, .ref h0_state, .ref h0_month, .ref h0_school, .ref h0_wage, .ref h0_gift, .ref h0_wish])), (h0_state, .inl (cI, 200, .inl g1)), (h0_month, .inl (cI, 200, .inl g3)), (h0_school, .inl (cI, 200, .inl h0_school_f)), (h0_wage, .inl (cI, 200, .inl h0_wage_f)), (h0_gift, .inl (cI, 200, .inl h0_gift_f)), (h0_wish, .inl (cI, 200, .inl h0_wish_f)), (h1, .inr (5, [.int h1_n, .ref h1_state, .ref h1_month, .ref h1_school, .ref h1_wage, .ref h1_gift, .ref h1_wish])), (h1_state, .inl (cI, 200, .inl h1_state_f)), (h1_month, .inl (cI, 200, .inl h1_month_f)), (h1_school, .inl (cI, 200, .inl h1_school_f)), (h1_wage, .inl (cI, 200, .inl h1_wage_f)), (h1_gift, .inl (cI, 200, .inl h1_gift_f)), (h1_wish, .inl (cI, 200, .inl h1_wish_f))] H := hP
  have hD : va_D A [(h0, .inr (5, [.int h1_n, .ref h0_state, .ref h0_month, .ref h0_school, .ref h0_wage, .ref h0_gift, .ref h0_wish])), (h0_state, .inl (cI, 200, .inl g1)), (h0_month, .inl (cI, 200, .inl g3)), (h0_school, .inl (cI, 200, .inl h0_school_f)), (h0_wage, .inl (cI, 200, .inl h0_wage_f)), (h0_gift, .inl (cI, 200, .inl h0_gift_f)), (h0_wish, .inl (cI, 200, .inl h0_wish_f)), (h1, .inr (5, [.int h1_n, .ref h1_state, .ref h1_month, .ref h1_school, .ref h1_wage, .ref h1_gift, .ref h1_wish])), (h1_state, .inl (cI, 200, .inl h1_state_f)), (h1_month, .inl (cI, 200, .inl h1_month_f)), (h1_school, .inl (cI, 200, .inl h1_school_f)), (h1_wage, .inl (cI, 200, .inl h1_wage_f)), (h1_gift, .inl (cI, 200, .inl h1_gift_f)), (h1_wish, .inl (cI, 200, .inl h1_wish_f))] := hD
  refine lv_aload_n hx hb dX5_copyOf_42 rfl (lv_at hl 1 rfl) ?_
  refine va_get (D := (dC, dI)) (ci := 5) (v := .ref h1_school) (C := RX5) (T := TX5) (N := 7) hx hb hts hi5 hown hK hP 7 rfl rfl 3 (by decide) hk7 (fun _ h9 => h9) rfl dX5_copyOf_43 ?_
  refine lv_iconst (v := 0) hx hb dX5_copyOf_46 (by decide) ?_
  refine lv_aload_n hx hb dX5_copyOf_47 rfl (lv_at hl 0 rfl) ?_
  refine va_get (D := (dC, dI)) (ci := 5) (v := .ref h0_school) (C := RX5) (T := TX5) (N := 7) hx hb hts hi5 hown hK hP 0 rfl rfl 3 (by decide) hk7 (fun _ h9 => h9) rfl dX5_copyOf_48 ?_
  refine lv_iconst (v := 0) hx hb dX5_copyOf_51 (by decide) ?_
  refine lv_aload_n hx hb dX5_copyOf_52 rfl (lv_at hl 0 rfl) ?_
  refine va_get (D := (dC, dI)) (ci := 5) (v := .int h1_n) (C := RX5) (T := TX5) (N := 7) hx hb hts hi5 hown hK hP 0 rfl rfl 0 (by decide) hk0 (fun _ h9 => h9) rfl dX5_copyOf_53 ?_
  refine y_copyi hx hb (by rw [hml]; exact hl.1.symm) hown hk2 hk3 hk4 hk5 hK hP hD hS 10 3 1 1 rfl rfl rfl rfl rfl (by decide) (by decide) (z_nn rfl (by omega)) (z_fit2 (show Int32.toInt 0 = 0 from by decide) rfl (by omega) (by omega) (by omega)) (z_fit2 (show Int32.toInt 0 = 0 from by decide) rfl (by omega) (by omega) (by omega)) (fun _ _ => rfl) (Nat.le_of_ble_eq_true rfl) (Nat.le_of_ble_eq_true rfl) dX5_copyOf_56 (fun H locs g5 h6 hP hD hS => ?_)
  have hP : va_P (dC, dI) vwCl [(h0, .inr (5, [.int h1_n, .ref h0_state, .ref h0_month, .ref h0_school, .ref h0_wage, .ref h0_gift, .ref h0_wish])), (h0_state, .inl (cI, 200, .inl g1)), (h0_month, .inl (cI, 200, .inl g3)), (h0_school, .inl (cI, 200, .inl g5)), (h0_wage, .inl (cI, 200, .inl h0_wage_f)), (h0_gift, .inl (cI, 200, .inl h0_gift_f)), (h0_wish, .inl (cI, 200, .inl h0_wish_f)), (h1, .inr (5, [.int h1_n, .ref h1_state, .ref h1_month, .ref h1_school, .ref h1_wage, .ref h1_gift, .ref h1_wish])), (h1_state, .inl (cI, 200, .inl h1_state_f)), (h1_month, .inl (cI, 200, .inl h1_month_f)), (h1_school, .inl (cI, 200, .inl h1_school_f)), (h1_wage, .inl (cI, 200, .inl h1_wage_f)), (h1_gift, .inl (cI, 200, .inl h1_gift_f)), (h1_wish, .inl (cI, 200, .inl h1_wish_f))] H := hP
  have hD : va_D A [(h0, .inr (5, [.int h1_n, .ref h0_state, .ref h0_month, .ref h0_school, .ref h0_wage, .ref h0_gift, .ref h0_wish])), (h0_state, .inl (cI, 200, .inl g1)), (h0_month, .inl (cI, 200, .inl g3)), (h0_school, .inl (cI, 200, .inl g5)), (h0_wage, .inl (cI, 200, .inl h0_wage_f)), (h0_gift, .inl (cI, 200, .inl h0_gift_f)), (h0_wish, .inl (cI, 200, .inl h0_wish_f)), (h1, .inr (5, [.int h1_n, .ref h1_state, .ref h1_month, .ref h1_school, .ref h1_wage, .ref h1_gift, .ref h1_wish])), (h1_state, .inl (cI, 200, .inl h1_state_f)), (h1_month, .inl (cI, 200, .inl h1_month_f)), (h1_school, .inl (cI, 200, .inl h1_school_f)), (h1_wage, .inl (cI, 200, .inl h1_wage_f)), (h1_gift, .inl (cI, 200, .inl h1_gift_f)), (h1_wish, .inl (cI, 200, .inl h1_wish_f))] := hD
  have z7 : zR 0 300 g5 := zR_cpy h6 z_h1_school z_h0_school
  refine lv_aload_n hx hb dX5_copyOf_59 rfl (lv_at hl 1 rfl) ?_
  refine va_get (D := (dC, dI)) (ci := 5) (v := .ref h1_wage) (C := RX5) (T := TX5) (N := 7) hx hb hts hi5 hown hK hP 7 rfl rfl 4 (by decide) hk8 (fun _ h9 => h9) rfl dX5_copyOf_60 ?_
  refine lv_iconst (v := 0) hx hb dX5_copyOf_63 (by decide) ?_
  refine lv_aload_n hx hb dX5_copyOf_64 rfl (lv_at hl 0 rfl) ?_
  refine va_get (D := (dC, dI)) (ci := 5) (v := .ref h0_wage) (C := RX5) (T := TX5) (N := 7) hx hb hts hi5 hown hK hP 0 rfl rfl 4 (by decide) hk8 (fun _ h9 => h9) rfl dX5_copyOf_65 ?_
  refine lv_iconst (v := 0) hx hb dX5_copyOf_68 (by decide) ?_
  refine lv_aload_n hx hb dX5_copyOf_69 rfl (lv_at hl 0 rfl) ?_
  refine va_get (D := (dC, dI)) (ci := 5) (v := .int h1_n) (C := RX5) (T := TX5) (N := 7) hx hb hts hi5 hown hK hP 0 rfl rfl 0 (by decide) hk0 (fun _ h9 => h9) rfl dX5_copyOf_70 ?_
  refine y_copyi hx hb (by rw [hml]; exact hl.1.symm) hown hk2 hk3 hk4 hk5 hK hP hD hS 11 4 1 1 rfl rfl rfl rfl rfl (by decide) (by decide) (z_nn rfl (by omega)) (z_fit2 (show Int32.toInt 0 = 0 from by decide) rfl (by omega) (by omega) (by omega)) (z_fit2 (show Int32.toInt 0 = 0 from by decide) rfl (by omega) (by omega) (by omega)) (fun _ _ => rfl) (Nat.le_of_ble_eq_true rfl) (Nat.le_of_ble_eq_true rfl) dX5_copyOf_73 (fun H locs g8 h9 hP hD hS => ?_)
  have hP : va_P (dC, dI) vwCl [(h0, .inr (5, [.int h1_n, .ref h0_state, .ref h0_month, .ref h0_school, .ref h0_wage, .ref h0_gift, .ref h0_wish])), (h0_state, .inl (cI, 200, .inl g1)), (h0_month, .inl (cI, 200, .inl g3)), (h0_school, .inl (cI, 200, .inl g5)), (h0_wage, .inl (cI, 200, .inl g8)), (h0_gift, .inl (cI, 200, .inl h0_gift_f)), (h0_wish, .inl (cI, 200, .inl h0_wish_f)), (h1, .inr (5, [.int h1_n, .ref h1_state, .ref h1_month, .ref h1_school, .ref h1_wage, .ref h1_gift, .ref h1_wish])), (h1_state, .inl (cI, 200, .inl h1_state_f)), (h1_month, .inl (cI, 200, .inl h1_month_f)), (h1_school, .inl (cI, 200, .inl h1_school_f)), (h1_wage, .inl (cI, 200, .inl h1_wage_f)), (h1_gift, .inl (cI, 200, .inl h1_gift_f)), (h1_wish, .inl (cI, 200, .inl h1_wish_f))] H := hP
  have hD : va_D A [(h0, .inr (5, [.int h1_n, .ref h0_state, .ref h0_month, .ref h0_school, .ref h0_wage, .ref h0_gift, .ref h0_wish])), (h0_state, .inl (cI, 200, .inl g1)), (h0_month, .inl (cI, 200, .inl g3)), (h0_school, .inl (cI, 200, .inl g5)), (h0_wage, .inl (cI, 200, .inl g8)), (h0_gift, .inl (cI, 200, .inl h0_gift_f)), (h0_wish, .inl (cI, 200, .inl h0_wish_f)), (h1, .inr (5, [.int h1_n, .ref h1_state, .ref h1_month, .ref h1_school, .ref h1_wage, .ref h1_gift, .ref h1_wish])), (h1_state, .inl (cI, 200, .inl h1_state_f)), (h1_month, .inl (cI, 200, .inl h1_month_f)), (h1_school, .inl (cI, 200, .inl h1_school_f)), (h1_wage, .inl (cI, 200, .inl h1_wage_f)), (h1_gift, .inl (cI, 200, .inl h1_gift_f)), (h1_wish, .inl (cI, 200, .inl h1_wish_f))] := hD
  refine lv_aload_n hx hb dX5_copyOf_76 rfl (lv_at hl 1 rfl) ?_
  refine va_get (D := (dC, dI)) (ci := 5) (v := .ref h1_gift) (C := RX5) (T := TX5) (N := 7) hx hb hts hi5 hown hK hP 7 rfl rfl 5 (by decide) hk9 (fun _ h9 => h9) rfl dX5_copyOf_77 ?_
  refine lv_iconst (v := 0) hx hb dX5_copyOf_80 (by decide) ?_
  refine lv_aload_n hx hb dX5_copyOf_81 rfl (lv_at hl 0 rfl) ?_
  refine va_get (D := (dC, dI)) (ci := 5) (v := .ref h0_gift) (C := RX5) (T := TX5) (N := 7) hx hb hts hi5 hown hK hP 0 rfl rfl 5 (by decide) hk9 (fun _ h9 => h9) rfl dX5_copyOf_82 ?_
  refine lv_iconst (v := 0) hx hb dX5_copyOf_85 (by decide) ?_
  refine lv_aload_n hx hb dX5_copyOf_86 rfl (lv_at hl 0 rfl) ?_
  refine va_get (D := (dC, dI)) (ci := 5) (v := .int h1_n) (C := RX5) (T := TX5) (N := 7) hx hb hts hi5 hown hK hP 0 rfl rfl 0 (by decide) hk0 (fun _ h9 => h9) rfl dX5_copyOf_87 ?_
  refine y_copyi hx hb (by rw [hml]; exact hl.1.symm) hown hk2 hk3 hk4 hk5 hK hP hD hS 12 5 1 1 rfl rfl rfl rfl rfl (by decide) (by decide) (z_nn rfl (by omega)) (z_fit2 (show Int32.toInt 0 = 0 from by decide) rfl (by omega) (by omega) (by omega)) (z_fit2 (show Int32.toInt 0 = 0 from by decide) rfl (by omega) (by omega) (by omega)) (fun _ _ => rfl) (Nat.le_of_ble_eq_true rfl) (Nat.le_of_ble_eq_true rfl) dX5_copyOf_90 (fun H locs g10 h11 hP hD hS => ?_)
  have hP : va_P (dC, dI) vwCl [(h0, .inr (5, [.int h1_n, .ref h0_state, .ref h0_month, .ref h0_school, .ref h0_wage, .ref h0_gift, .ref h0_wish])), (h0_state, .inl (cI, 200, .inl g1)), (h0_month, .inl (cI, 200, .inl g3)), (h0_school, .inl (cI, 200, .inl g5)), (h0_wage, .inl (cI, 200, .inl g8)), (h0_gift, .inl (cI, 200, .inl g10)), (h0_wish, .inl (cI, 200, .inl h0_wish_f)), (h1, .inr (5, [.int h1_n, .ref h1_state, .ref h1_month, .ref h1_school, .ref h1_wage, .ref h1_gift, .ref h1_wish])), (h1_state, .inl (cI, 200, .inl h1_state_f)), (h1_month, .inl (cI, 200, .inl h1_month_f)), (h1_school, .inl (cI, 200, .inl h1_school_f)), (h1_wage, .inl (cI, 200, .inl h1_wage_f)), (h1_gift, .inl (cI, 200, .inl h1_gift_f)), (h1_wish, .inl (cI, 200, .inl h1_wish_f))] H := hP
  have hD : va_D A [(h0, .inr (5, [.int h1_n, .ref h0_state, .ref h0_month, .ref h0_school, .ref h0_wage, .ref h0_gift, .ref h0_wish])), (h0_state, .inl (cI, 200, .inl g1)), (h0_month, .inl (cI, 200, .inl g3)), (h0_school, .inl (cI, 200, .inl g5)), (h0_wage, .inl (cI, 200, .inl g8)), (h0_gift, .inl (cI, 200, .inl g10)), (h0_wish, .inl (cI, 200, .inl h0_wish_f)), (h1, .inr (5, [.int h1_n, .ref h1_state, .ref h1_month, .ref h1_school, .ref h1_wage, .ref h1_gift, .ref h1_wish])), (h1_state, .inl (cI, 200, .inl h1_state_f)), (h1_month, .inl (cI, 200, .inl h1_month_f)), (h1_school, .inl (cI, 200, .inl h1_school_f)), (h1_wage, .inl (cI, 200, .inl h1_wage_f)), (h1_gift, .inl (cI, 200, .inl h1_gift_f)), (h1_wish, .inl (cI, 200, .inl h1_wish_f))] := hD
  refine lv_aload_n hx hb dX5_copyOf_93 rfl (lv_at hl 1 rfl) ?_
  refine va_get (D := (dC, dI)) (ci := 5) (v := .ref h1_wish) (C := RX5) (T := TX5) (N := 7) hx hb hts hi5 hown hK hP 7 rfl rfl 6 (by decide) hk10 (fun _ h9 => h9) rfl dX5_copyOf_94 ?_
  refine lv_iconst (v := 0) hx hb dX5_copyOf_97 (by decide) ?_
  refine lv_aload_n hx hb dX5_copyOf_98 rfl (lv_at hl 0 rfl) ?_
  refine va_get (D := (dC, dI)) (ci := 5) (v := .ref h0_wish) (C := RX5) (T := TX5) (N := 7) hx hb hts hi5 hown hK hP 0 rfl rfl 6 (by decide) hk10 (fun _ h9 => h9) rfl dX5_copyOf_99 ?_
  refine lv_iconst (v := 0) hx hb dX5_copyOf_102 (by decide) ?_
  refine lv_aload_n hx hb dX5_copyOf_103 rfl (lv_at hl 0 rfl) ?_
  refine va_get (D := (dC, dI)) (ci := 5) (v := .int h1_n) (C := RX5) (T := TX5) (N := 7) hx hb hts hi5 hown hK hP 0 rfl rfl 0 (by decide) hk0 (fun _ h9 => h9) rfl dX5_copyOf_104 ?_
  refine y_copyi hx hb (by rw [hml]; exact hl.1.symm) hown hk2 hk3 hk4 hk5 hK hP hD hS 13 6 1 1 rfl rfl rfl rfl rfl (by decide) (by decide) (z_nn rfl (by omega)) (z_fit2 (show Int32.toInt 0 = 0 from by decide) rfl (by omega) (by omega) (by omega)) (z_fit2 (show Int32.toInt 0 = 0 from by decide) rfl (by omega) (by omega) (by omega)) (fun _ _ => rfl) (Nat.le_of_ble_eq_true rfl) (Nat.le_of_ble_eq_true rfl) dX5_copyOf_107 (fun H locs g12 h13 hP hD hS => ?_)
  have hP : va_P (dC, dI) vwCl [(h0, .inr (5, [.int h1_n, .ref h0_state, .ref h0_month, .ref h0_school, .ref h0_wage, .ref h0_gift, .ref h0_wish])), (h0_state, .inl (cI, 200, .inl g1)), (h0_month, .inl (cI, 200, .inl g3)), (h0_school, .inl (cI, 200, .inl g5)), (h0_wage, .inl (cI, 200, .inl g8)), (h0_gift, .inl (cI, 200, .inl g10)), (h0_wish, .inl (cI, 200, .inl g12)), (h1, .inr (5, [.int h1_n, .ref h1_state, .ref h1_month, .ref h1_school, .ref h1_wage, .ref h1_gift, .ref h1_wish])), (h1_state, .inl (cI, 200, .inl h1_state_f)), (h1_month, .inl (cI, 200, .inl h1_month_f)), (h1_school, .inl (cI, 200, .inl h1_school_f)), (h1_wage, .inl (cI, 200, .inl h1_wage_f)), (h1_gift, .inl (cI, 200, .inl h1_gift_f)), (h1_wish, .inl (cI, 200, .inl h1_wish_f))] H := hP
  have hD : va_D A [(h0, .inr (5, [.int h1_n, .ref h0_state, .ref h0_month, .ref h0_school, .ref h0_wage, .ref h0_gift, .ref h0_wish])), (h0_state, .inl (cI, 200, .inl g1)), (h0_month, .inl (cI, 200, .inl g3)), (h0_school, .inl (cI, 200, .inl g5)), (h0_wage, .inl (cI, 200, .inl g8)), (h0_gift, .inl (cI, 200, .inl g10)), (h0_wish, .inl (cI, 200, .inl g12)), (h1, .inr (5, [.int h1_n, .ref h1_state, .ref h1_month, .ref h1_school, .ref h1_wage, .ref h1_gift, .ref h1_wish])), (h1_state, .inl (cI, 200, .inl h1_state_f)), (h1_month, .inl (cI, 200, .inl h1_month_f)), (h1_school, .inl (cI, 200, .inl h1_school_f)), (h1_wage, .inl (cI, 200, .inl h1_wage_f)), (h1_gift, .inl (cI, 200, .inl h1_gift_f)), (h1_wish, .inl (cI, 200, .inl h1_wish_f))] := hD
  exact y_vret ((h1_n, g1, g3, g5, g8, g10, g12) : Int32 × (Nat → Int32) × (Nat → Int32) × (Nat → Int32) × (Nat → Int32) × (Nat → Int32) × (Nat → Int32)) hx hb hr hlocks hK hP hD hS hAe hQ rfl ⟨(show 0 ≤ h1_n.toInt from by omega), (show h1_n.toInt ≤ 200 from by omega), z7⟩ dX5_copyOf_110
set_option maxHeartbeats 8000000 in
set_option maxRecDepth 100000 in
theorem k_X5_has (l : Launch) (dC : Nat → ClassId) (dI : Nat → Nat → Nat) (cB cI cJ cZ cP cQ : ClassId) (h0 : Nat) (h0_state : Nat) (h0_month : Nat) (h0_school : Nat) (h0_wage : Nat) (h0_gift : Nat) (h0_wish : Nat) (sz : Nat) (p1 : Int32) (h0_n : Int32) (e0 : 0 ≤ h0_n.toInt) (e1 : h0_n.toInt ≤ 200) : Met l yX5_has wsX5_has ({ frames := 0, cells := 0, slots := 0, locals := 0 } : Room) (zPc [.ref h0, .int p1] (dC, dI) (zT cB cI cJ cZ cP cQ) [(h0, .inr (5, [.int h0_n, .ref h0_state, .ref h0_month, .ref h0_school, .ref h0_wage, .ref h0_gift, .ref h0_wish]))] sz [] []) (va_Qi (fun (r : Int32) (u : Unit) => (r = 0 ∧ (p1.toInt < 0 ∨ (0 ≤ p1.toInt ∧ h0_n.toInt ≤ p1.toInt))) ∨ (r = 1 ∧ 0 ≤ p1.toInt ∧ p1.toInt < h0_n.toInt)) (zB (dC, dI) (zT cB cI cJ cZ cP cQ) (fun u : Unit => [(h0, .inr (5, [.int h0_n, .ref h0_state, .ref h0_month, .ref h0_school, .ref h0_wage, .ref h0_gift, .ref h0_wish]))]) [(h0, .inr (5, [.int h0_n, .ref h0_state, .ref h0_month, .ref h0_school, .ref h0_wage, .ref h0_gift, .ref h0_wish]))] sz) (va_A [(h0, .inr (5, [.int h0_n, .ref h0_state, .ref h0_month, .ref h0_school, .ref h0_wage, .ref h0_gift, .ref h0_wish]))] sz)) 0 0 (va_A [(h0, .inr (5, [.int h0_n, .ref h0_state, .ref h0_month, .ref h0_school, .ref h0_wage, .ref h0_gift, .ref h0_wish]))] sz) := by
  refine z_enter (cc := cX5_has) (maxL := 2) (ret := (some .boolean)) (by decide) rfl (Nat.le_of_ble_eq_true rfl) ?_
  intro p e s m below meth c A ls Q H locs hx hb hr hml hown hts hlocks hin hK hP hD hA hX hS hAe hQ hl
  have hown : s.vm.findClass RX5 = some m.cls := hown
  have hi5 : ∀ w ∈ wsX50, w ∈ wsX5_has := fun w h => List.mem_cons_of_mem _ (List.mem_append_right _ h)
  have hk0 := hts (.fieldLink RX5 30 "MonthPush$Sheets" "n" "I") (List.mem_of_getElem? (i := 1) rfl)
  have hl : lv_has ls 2 [(0, .ref h0), (1, .int p1)] := hl
  refine lv_iload_n hx hb dX5_has_0 rfl (lv_at hl 1 rfl) ?_
  refine lv_if_lt (tgt := 16) hx hb dX5_has_1 (by decide) (fun c_1 => ?_) (fun c_1 => ?_)
  · have f2 : p1.toInt < 0 := z_lt rfl (show Int32.toInt 0 = 0 from by decide) c_1
    refine lv_iconst (v := 0) hx hb dX5_has_16 (by decide) ?_
    exact y_zret () hx hb hr hlocks hK hP hD hS hAe hQ rfl (Or.inl ⟨rfl, (Or.inl f2)⟩) (by decide) dX5_has_17
  · have f2 : 0 ≤ p1.toInt := z_nlt rfl (show Int32.toInt 0 = 0 from by decide) c_1
    refine lv_iload_n hx hb dX5_has_4 rfl (lv_at hl 1 rfl) ?_
    refine lv_aload_n hx hb dX5_has_5 rfl (lv_at hl 0 rfl) ?_
    refine va_get (D := (dC, dI)) (ci := 5) (v := .int h0_n) (C := RX5) (T := TX5) (N := 7) hx hb hts hi5 hown hK hP 0 rfl rfl 0 (by decide) hk0 (fun _ h9 => h9) rfl dX5_has_6 ?_
    refine lv_icmp_ge (tgt := 16) hx hb dX5_has_9 (by decide) (fun c_3 => ?_) (fun c_3 => ?_)
    · have f4 : h0_n.toInt ≤ p1.toInt := z_le rfl rfl c_3
      refine lv_iconst (v := 0) hx hb dX5_has_16 (by decide) ?_
      exact y_zret () hx hb hr hlocks hK hP hD hS hAe hQ rfl (Or.inl ⟨rfl, (Or.inr ⟨f2, f4⟩)⟩) (by decide) dX5_has_17
    · have f4 : p1.toInt < h0_n.toInt := z_nle rfl rfl c_3
      refine lv_iconst (v := 1) hx hb dX5_has_12 (by decide) ?_
      refine lv_goto (tgt := 17) hx hb dX5_has_13 (by decide) ?_
      exact y_zret () hx hb hr hlocks hK hP hD hS hAe hQ rfl (Or.inr ⟨rfl, ⟨f2, f4⟩⟩) (by decide) dX5_has_17
set_option maxHeartbeats 8000000 in
set_option maxRecDepth 100000 in
theorem k_X5_leave (l : Launch) (dC : Nat → ClassId) (dI : Nat → Nat → Nat) (cB cI cJ cZ cP cQ : ClassId) (h0 : Nat) (h0_state : Nat) (h0_month : Nat) (h0_school : Nat) (h0_wage : Nat) (h0_gift : Nat) (h0_wish : Nat) (sz : Nat) (p1 : Int32) (h0_n : Int32) (h0_state_f : Nat → Int32) (h0_month_f : Nat → Int32) (h0_school_f : Nat → Int32) (h0_wage_f : Nat → Int32) (h0_gift_f : Nat → Int32) (h0_wish_f : Nat → Int32) (e0 : 0 ≤ h0_n.toInt) (e1 : h0_n.toInt ≤ 200) (z_h0_school : zR 0 300 h0_school_f) : Met l yX5_leave wsX5_leave ({ frames := 1, cells := 0, slots := 0, locals := 26 } : Room) (zPc [.ref h0, .int p1] (dC, dI) (zT cB cI cJ cZ cP cQ) [(h0, .inr (5, [.int h0_n, .ref h0_state, .ref h0_month, .ref h0_school, .ref h0_wage, .ref h0_gift, .ref h0_wish])), (h0_state, .inl (cI, 200, .inl h0_state_f)), (h0_month, .inl (cI, 200, .inl h0_month_f)), (h0_school, .inl (cI, 200, .inl h0_school_f)), (h0_wage, .inl (cI, 200, .inl h0_wage_f)), (h0_gift, .inl (cI, 200, .inl h0_gift_f)), (h0_wish, .inl (cI, 200, .inl h0_wish_f))] sz [] []) (va_Qv (fun (u : Int32 × (Nat → Int32) × (Nat → Int32) × (Nat → Int32) × (Nat → Int32) × (Nat → Int32) × (Nat → Int32)) => 0 ≤ u.1.toInt ∧ u.1.toInt ≤ 200 ∧ zR 0 300 u.2.2.2.1) (zB (dC, dI) (zT cB cI cJ cZ cP cQ) (fun u : Int32 × (Nat → Int32) × (Nat → Int32) × (Nat → Int32) × (Nat → Int32) × (Nat → Int32) × (Nat → Int32) => [(h0, .inr (5, [.int u.1, .ref h0_state, .ref h0_month, .ref h0_school, .ref h0_wage, .ref h0_gift, .ref h0_wish])), (h0_state, .inl (cI, 200, .inl u.2.1)), (h0_month, .inl (cI, 200, .inl u.2.2.1)), (h0_school, .inl (cI, 200, .inl u.2.2.2.1)), (h0_wage, .inl (cI, 200, .inl u.2.2.2.2.1)), (h0_gift, .inl (cI, 200, .inl u.2.2.2.2.2.1)), (h0_wish, .inl (cI, 200, .inl u.2.2.2.2.2.2))]) [(h0, .inr (5, [.int h0_n, .ref h0_state, .ref h0_month, .ref h0_school, .ref h0_wage, .ref h0_gift, .ref h0_wish])), (h0_state, .inl (cI, 200, .inl h0_state_f)), (h0_month, .inl (cI, 200, .inl h0_month_f)), (h0_school, .inl (cI, 200, .inl h0_school_f)), (h0_wage, .inl (cI, 200, .inl h0_wage_f)), (h0_gift, .inl (cI, 200, .inl h0_gift_f)), (h0_wish, .inl (cI, 200, .inl h0_wish_f))] sz) (va_A [(h0, .inr (5, [.int h0_n, .ref h0_state, .ref h0_month, .ref h0_school, .ref h0_wage, .ref h0_gift, .ref h0_wish])), (h0_state, .inl (cI, 200, .inl h0_state_f)), (h0_month, .inl (cI, 200, .inl h0_month_f)), (h0_school, .inl (cI, 200, .inl h0_school_f)), (h0_wage, .inl (cI, 200, .inl h0_wage_f)), (h0_gift, .inl (cI, 200, .inl h0_gift_f)), (h0_wish, .inl (cI, 200, .inl h0_wish_f))] sz)) 0 0 (va_A [(h0, .inr (5, [.int h0_n, .ref h0_state, .ref h0_month, .ref h0_school, .ref h0_wage, .ref h0_gift, .ref h0_wish])), (h0_state, .inl (cI, 200, .inl h0_state_f)), (h0_month, .inl (cI, 200, .inl h0_month_f)), (h0_school, .inl (cI, 200, .inl h0_school_f)), (h0_wage, .inl (cI, 200, .inl h0_wage_f)), (h0_gift, .inl (cI, 200, .inl h0_gift_f)), (h0_wish, .inl (cI, 200, .inl h0_wish_f))] sz) := by
  refine z_enter (cc := cX5_leave) (maxL := 4) (ret := none) (by decide) rfl (Nat.le_of_ble_eq_true rfl) ?_
  intro p e s m below meth c A ls Q H locs hx hb hr hml hown hts hlocks hin hK hP hD hA hX hS hAe hQ hl
  have hown : s.vm.findClass RX5 = some m.cls := hown
  have hi5 : ∀ w ∈ wsX50, w ∈ wsX5_leave := fun w h => List.mem_cons_of_mem _ (List.mem_append_right _ h)
  have hk0 := hts (.fieldLink RX5 30 "MonthPush$Sheets" "n" "I") (List.mem_of_getElem? (i := 1) rfl)
  have hk1 := hts (.fieldLink RX5 9 "MonthPush$Sheets" "state" "[I") (List.mem_of_getElem? (i := 2) rfl)
  have hk2 := hts (.fieldLink RX5 15 "MonthPush$Sheets" "month" "[I") (List.mem_of_getElem? (i := 3) rfl)
  have hk3 := hts (.fieldLink RX5 18 "MonthPush$Sheets" "school" "[I") (List.mem_of_getElem? (i := 4) rfl)
  have hk4 := hts (.fieldLink RX5 21 "MonthPush$Sheets" "wage" "[I") (List.mem_of_getElem? (i := 5) rfl)
  have hk5 := hts (.fieldLink RX5 24 "MonthPush$Sheets" "gift" "[I") (List.mem_of_getElem? (i := 6) rfl)
  have hk6 := hts (.fieldLink RX5 27 "MonthPush$Sheets" "wish" "[I") (List.mem_of_getElem? (i := 7) rfl)
  have hl : lv_has ls 4 [(0, .ref h0), (1, .int p1)] := hl
  refine lv_aload_n hx hb dX5_leave_0 rfl (lv_at hl 0 rfl) ?_
  refine va_get (D := (dC, dI)) (ci := 5) (v := .int h0_n) (C := RX5) (T := TX5) (N := 7) hx hb hts hi5 hown hK hP 0 rfl rfl 0 (by decide) hk0 (fun _ h9 => h9) rfl dX5_leave_1 ?_
  refine lv_istore_n (lv' := [(2, .int h0_n), (0, .ref h0), (1, .int p1)]) hx hb dX5_leave_4 rfl hl (by decide) rfl (fun ls hl => ?_)
  refine lv_aload_n hx hb dX5_leave_5 rfl (lv_at hl 1 rfl) ?_
  refine lv_iconst (v := 0) hx hb dX5_leave_6 (by decide) ?_
  refine va_put (D := (dC, dI)) (ci := 5) (v := .int 0) (ty := .int) (C := RX5) (T := TX5) (N := 7) hx hb hts hi5 tyX5 tyX5_ok nmX5 hown hK hP hD hS 0 rfl rfl 0 (by decide) hk0 (fun _ h9 => h9) rfl (by decide +kernel) rfl rfl (Nat.le_of_ble_eq_true rfl) dX5_leave_7 (fun H locs hP hD hS => ?_)
  have hP : va_P (dC, dI) vwCl [(h0, .inr (5, [.int 0, .ref h0_state, .ref h0_month, .ref h0_school, .ref h0_wage, .ref h0_gift, .ref h0_wish])), (h0_state, .inl (cI, 200, .inl h0_state_f)), (h0_month, .inl (cI, 200, .inl h0_month_f)), (h0_school, .inl (cI, 200, .inl h0_school_f)), (h0_wage, .inl (cI, 200, .inl h0_wage_f)), (h0_gift, .inl (cI, 200, .inl h0_gift_f)), (h0_wish, .inl (cI, 200, .inl h0_wish_f))] H := hP
  have hD : va_D A [(h0, .inr (5, [.int 0, .ref h0_state, .ref h0_month, .ref h0_school, .ref h0_wage, .ref h0_gift, .ref h0_wish])), (h0_state, .inl (cI, 200, .inl h0_state_f)), (h0_month, .inl (cI, 200, .inl h0_month_f)), (h0_school, .inl (cI, 200, .inl h0_school_f)), (h0_wage, .inl (cI, 200, .inl h0_wage_f)), (h0_gift, .inl (cI, 200, .inl h0_gift_f)), (h0_wish, .inl (cI, 200, .inl h0_wish_f))] := hD
  refine lv_iconst (v := 0) hx hb dX5_leave_10 (by decide) ?_
  refine lv_istore_n (lv' := [(3, .int 0), (2, .int h0_n), (0, .ref h0), (1, .int p1)]) hx hb dX5_leave_11 rfl hl (by decide) rfl (fun ls hl => ?_)
  have hlp9 : ∀ (n10 : Nat) (x1 : Int32) (x2 : Int32) (g3 : Nat → Int32) (g4 : Nat → Int32) (g5 : Nat → Int32) (g6 : Nat → Int32) (g7 : Nat → Int32) (g8 : Nat → Int32), h0_n.toInt - x1.toInt < (n10 : Int) → 0 ≤ x2.toInt → x2.toInt ≤ 200 → (zR 0 300 g5) → 0 ≤ x1.toInt → x1.toInt ≤ h0_n.toInt → ∀ (H : Heap) (locs : List Loc), va_P (dC, dI) vwCl [(h0, .inr (5, [.int x2, .ref h0_state, .ref h0_month, .ref h0_school, .ref h0_wage, .ref h0_gift, .ref h0_wish])), (h0_state, .inl (cI, 200, .inl g3)), (h0_month, .inl (cI, 200, .inl g4)), (h0_school, .inl (cI, 200, .inl g5)), (h0_wage, .inl (cI, 200, .inl g6)), (h0_gift, .inl (cI, 200, .inl g7)), (h0_wish, .inl (cI, 200, .inl g8))] H → va_D A [(h0, .inr (5, [.int x2, .ref h0_state, .ref h0_month, .ref h0_school, .ref h0_wage, .ref h0_gift, .ref h0_wish])), (h0_state, .inl (cI, 200, .inl g3)), (h0_month, .inl (cI, 200, .inl g4)), (h0_school, .inl (cI, 200, .inl g5)), (h0_wage, .inl (cI, 200, .inl g6)), (h0_gift, .inl (cI, 200, .inl g7)), (h0_wish, .inl (cI, 200, .inl g8))] → va_S A s.heap H locs → ∀ (ls : Array Slot), lv_has ls 4 [(3, .int x1), (2, .int h0_n), (0, .ref h0), (1, .int p1)] → W p l e ({ frames := 1, cells := 0, slots := 0, locals := 26 } : Room) s m ([.ref h0, .int p1] : List Value).toArray below meth c H locs 0 0 Q (F0 m 12 ls []) := by
    intro n10
    induction n10 with
    | zero =>
      intro x1 x2 g3 g4 g5 g6 g7 g8 hm16 k11 k12 k13 k14 k15
      exact absurd hm16 (by omega)
    | succ n10 ih17 =>
      intro x1 x2 g3 g4 g5 g6 g7 g8 hm16 k11 k12 k13 k14 k15 H locs hP hD hS ls hl
      refine lv_iload_n hx hb dX5_leave_12 rfl (lv_at hl 0 rfl) ?_
      refine lv_iload_n hx hb dX5_leave_13 rfl (lv_at hl 1 rfl) ?_
      refine lv_icmp_ge (tgt := 73) hx hb dX5_leave_14 (by decide) (fun c_18 => ?_) (fun c_18 => ?_)
      · have f19 : h0_n.toInt ≤ x1.toInt := z_le rfl rfl c_18
        exact y_vret ((x2, g3, g4, g5, g6, g7, g8) : Int32 × (Nat → Int32) × (Nat → Int32) × (Nat → Int32) × (Nat → Int32) × (Nat → Int32) × (Nat → Int32)) hx hb hr hlocks hK hP hD hS hAe hQ rfl ⟨(show 0 ≤ x2.toInt from by omega), (show x2.toInt ≤ 200 from by omega), k13⟩ dX5_leave_73
      · have f19 : x1.toInt < h0_n.toInt := z_nle rfl rfl c_18
        refine lv_aload_n hx hb dX5_leave_17 rfl (lv_at hl 2 rfl) ?_
        refine va_get (D := (dC, dI)) (ci := 5) (v := .ref h0_state) (C := RX5) (T := TX5) (N := 7) hx hb hts hi5 hown hK hP 0 rfl rfl 1 (by decide) hk1 (fun _ h9 => h9) rfl dX5_leave_18 ?_
        refine lv_iload_n hx hb dX5_leave_21 rfl (lv_at hl 0 rfl) ?_
        refine va_iald hx hb hK hP 1 1 rfl rfl (z_in rfl (by omega) (by omega)) dX5_leave_22 ?_
        refine lv_iload_n hx hb dX5_leave_23 rfl (lv_at hl 3 rfl) ?_
        refine lv_icmp_ne (tgt := 67) hx hb dX5_leave_24 (by decide) (fun c_20 => ?_) (fun c_20 => ?_)
        · have f21 : ¬ (g3 x1.toNatClampNeg).toInt = p1.toInt := z_ne rfl rfl c_20
          obtain ⟨r22, h23⟩ : ∃ q : Int32, q = x1 + 1 := ⟨_, rfl⟩
          have f24 : r22.toInt = x1.toInt + 1 := z_iadd h23 rfl (by decide) (by omega) (by omega)
          refine lv_iinc (v := r22) (lv' := [(3, .int r22), (2, .int h0_n), (0, .ref h0), (1, .int p1)]) hx hb dX5_leave_67 hl (k := 0) rfl h23.symm (by decide) rfl (fun ls hl => ?_)
          refine lv_goto (tgt := 12) hx hb dX5_leave_70 (by decide) ?_
          exact ih17 r22 x2 g3 g4 g5 g6 g7 g8 (show h0_n.toInt - r22.toInt < (n10 : Int) from by omega) (show 0 ≤ x2.toInt from by omega) (show x2.toInt ≤ 200 from by omega) k13 (show 0 ≤ r22.toInt from by omega) (show r22.toInt ≤ h0_n.toInt from by omega) _ _ hP hD hS ls (lv_sub hl [0, 1, 2, 3] rfl)
        · have f21 : (g3 x1.toNatClampNeg).toInt = p1.toInt := z_eq rfl rfl c_20
          refine lv_aload_n hx hb dX5_leave_27 rfl (lv_at hl 2 rfl) ?_
          refine lv_aload_n hx hb dX5_leave_28 rfl (lv_at hl 2 rfl) ?_
          refine va_get (D := (dC, dI)) (ci := 5) (v := .ref h0_state) (C := RX5) (T := TX5) (N := 7) hx hb hts hi5 hown hK hP 0 rfl rfl 1 (by decide) hk1 (fun _ h9 => h9) rfl dX5_leave_29 ?_
          refine lv_iload_n hx hb dX5_leave_32 rfl (lv_at hl 0 rfl) ?_
          refine va_iald hx hb hK hP 1 1 rfl rfl (z_in rfl (by omega) (by omega)) dX5_leave_33 ?_
          refine lv_aload_n hx hb dX5_leave_34 rfl (lv_at hl 2 rfl) ?_
          refine va_get (D := (dC, dI)) (ci := 5) (v := .ref h0_month) (C := RX5) (T := TX5) (N := 7) hx hb hts hi5 hown hK hP 0 rfl rfl 2 (by decide) hk2 (fun _ h9 => h9) rfl dX5_leave_35 ?_
          refine lv_iload_n hx hb dX5_leave_38 rfl (lv_at hl 0 rfl) ?_
          refine va_iald hx hb hK hP 2 1 rfl rfl (z_in rfl (by omega) (by omega)) dX5_leave_39 ?_
          refine lv_aload_n hx hb dX5_leave_40 rfl (lv_at hl 2 rfl) ?_
          refine va_get (D := (dC, dI)) (ci := 5) (v := .ref h0_school) (C := RX5) (T := TX5) (N := 7) hx hb hts hi5 hown hK hP 0 rfl rfl 3 (by decide) hk3 (fun _ h9 => h9) rfl dX5_leave_41 ?_
          refine lv_iload_n hx hb dX5_leave_44 rfl (lv_at hl 0 rfl) ?_
          refine va_iald hx hb hK hP 3 1 rfl rfl (z_in rfl (by omega) (by omega)) dX5_leave_45 ?_
          have f25 : 0 ≤ (g5 x1.toNatClampNeg).toInt ∧ (g5 x1.toNatClampNeg).toInt ≤ 300 := k13 _
          refine lv_aload_n hx hb dX5_leave_46 rfl (lv_at hl 2 rfl) ?_
          refine va_get (D := (dC, dI)) (ci := 5) (v := .ref h0_wage) (C := RX5) (T := TX5) (N := 7) hx hb hts hi5 hown hK hP 0 rfl rfl 4 (by decide) hk4 (fun _ h9 => h9) rfl dX5_leave_47 ?_
          refine lv_iload_n hx hb dX5_leave_50 rfl (lv_at hl 0 rfl) ?_
          refine va_iald hx hb hK hP 4 1 rfl rfl (z_in rfl (by omega) (by omega)) dX5_leave_51 ?_
          refine lv_aload_n hx hb dX5_leave_52 rfl (lv_at hl 2 rfl) ?_
          refine va_get (D := (dC, dI)) (ci := 5) (v := .ref h0_gift) (C := RX5) (T := TX5) (N := 7) hx hb hts hi5 hown hK hP 0 rfl rfl 5 (by decide) hk5 (fun _ h9 => h9) rfl dX5_leave_53 ?_
          refine lv_iload_n hx hb dX5_leave_56 rfl (lv_at hl 0 rfl) ?_
          refine va_iald hx hb hK hP 5 1 rfl rfl (z_in rfl (by omega) (by omega)) dX5_leave_57 ?_
          refine lv_aload_n hx hb dX5_leave_58 rfl (lv_at hl 2 rfl) ?_
          refine va_get (D := (dC, dI)) (ci := 5) (v := .ref h0_wish) (C := RX5) (T := TX5) (N := 7) hx hb hts hi5 hown hK hP 0 rfl rfl 6 (by decide) hk6 (fun _ h9 => h9) rfl dX5_leave_59 ?_
          refine lv_iload_n hx hb dX5_leave_62 rfl (lv_at hl 0 rfl) ?_
          refine va_iald hx hb hK hP 6 1 rfl rfl (z_in rfl (by omega) (by omega)) dX5_leave_63 ?_
          refine y_finv (w' := fun (u26 : Int32 × (Nat → Int32) × (Nat → Int32) × (Nat → Int32) × (Nat → Int32) × (Nat → Int32) × (Nat → Int32)) => [(h0, .inr (5, [.int u26.1, .ref h0_state, .ref h0_month, .ref h0_school, .ref h0_wage, .ref h0_gift, .ref h0_wish])), (h0_state, .inl (cI, 200, .inl u26.2.1)), (h0_month, .inl (cI, 200, .inl u26.2.2.1)), (h0_school, .inl (cI, 200, .inl u26.2.2.2.1)), (h0_wage, .inl (cI, 200, .inl u26.2.2.2.2.1)), (h0_gift, .inl (cI, 200, .inl u26.2.2.2.2.2.1)), (h0_wish, .inl (cI, 200, .inl u26.2.2.2.2.2.2))]) (va_runV (As := [.int (g3 x1.toNatClampNeg), .int (g4 x1.toNatClampNeg), .int (g5 x1.toNatClampNeg), .int (g6 x1.toNatClampNeg), .int (g7 x1.toNatClampNeg), .int (g8 x1.toNatClampNeg)]) (rest := []) ⟨hx, hb, hml, hown, hts⟩ (k_X5_add l dC dI cB cI cJ cZ cP cQ h0 h0_state h0_month h0_school h0_wage h0_gift h0_wish H.size (g3 x1.toNatClampNeg) (g4 x1.toNatClampNeg) (g5 x1.toNatClampNeg) (g6 x1.toNatClampNeg) (g7 x1.toNatClampNeg) (g8 x1.toNatClampNeg) x2 g3 g4 g5 g6 g7 g8 (show 0 ≤ x2.toInt from by omega) (show x2.toInt ≤ 200 from by omega) k13 (show 0 ≤ ((g5 x1.toNatClampNeg).toInt) from by omega) (show ((g5 x1.toNatClampNeg).toInt) ≤ 300 from by omega)) (cwV 6 hts gX5_leave_X5_add rfl rfl rfl ⟨rfl, hd_X5_add⟩ ⟨Nat.le_of_ble_eq_true rfl, Nat.le_of_ble_eq_true rfl⟩) (z_pV (ci := 5) hK hP hD zX_nil [0, 1, 2, 3, 4, 5, 6] (by decide) rfl rfl 0 rfl) rfl rfl hl.1 rfl (lv_room (Nat.le_of_ble_eq_true rfl)) dX5_leave_64 ⟨Nat.le_of_ble_eq_true rfl, Nat.le_of_ble_eq_true rfl⟩) hP hD hS hA [0, 1, 2, 3, 4, 5, 6] [] [0, 1, 2, 3, 4, 5, 6] rfl rfl (by decide) (by decide) (fun _ => rfl) (by decide) (fun u26 H locs hp35 hP hD hS => ?_)
          obtain ⟨v27, v28, v29, v30, v31, v32, v33⟩ := u26
          have hP : va_P (dC, dI) vwCl [(h0, .inr (5, [.int v27, .ref h0_state, .ref h0_month, .ref h0_school, .ref h0_wage, .ref h0_gift, .ref h0_wish])), (h0_state, .inl (cI, 200, .inl v28)), (h0_month, .inl (cI, 200, .inl v29)), (h0_school, .inl (cI, 200, .inl v30)), (h0_wage, .inl (cI, 200, .inl v31)), (h0_gift, .inl (cI, 200, .inl v32)), (h0_wish, .inl (cI, 200, .inl v33))] H := hP
          have hD : va_D A [(h0, .inr (5, [.int v27, .ref h0_state, .ref h0_month, .ref h0_school, .ref h0_wage, .ref h0_gift, .ref h0_wish])), (h0_state, .inl (cI, 200, .inl v28)), (h0_month, .inl (cI, 200, .inl v29)), (h0_school, .inl (cI, 200, .inl v30)), (h0_wage, .inl (cI, 200, .inl v31)), (h0_gift, .inl (cI, 200, .inl v32)), (h0_wish, .inl (cI, 200, .inl v33))] := hD
          have hp35 : 0 ≤ v27.toInt ∧ v27.toInt ≤ 200 ∧ (zR 0 300 v30) := hp35
          obtain ⟨f36, f37, f38⟩ := hp35
          obtain ⟨r39, h40⟩ : ∃ q : Int32, q = x1 + 1 := ⟨_, rfl⟩
          have f41 : r39.toInt = x1.toInt + 1 := z_iadd h40 rfl (by decide) (by omega) (by omega)
          refine lv_iinc (v := r39) (lv' := [(3, .int r39), (2, .int h0_n), (0, .ref h0), (1, .int p1)]) hx hb dX5_leave_67 hl (k := 0) rfl h40.symm (by decide) rfl (fun ls hl => ?_)
          refine lv_goto (tgt := 12) hx hb dX5_leave_70 (by decide) ?_
          exact ih17 r39 v27 v28 v29 v30 v31 v32 v33 (show h0_n.toInt - r39.toInt < (n10 : Int) from by omega) (show 0 ≤ v27.toInt from by omega) (show v27.toInt ≤ 200 from by omega) f38 (show 0 ≤ r39.toInt from by omega) (show r39.toInt ≤ h0_n.toInt from by omega) _ _ hP hD hS ls (lv_sub hl [0, 1, 2, 3] rfl)
  exact hlp9 (h0_n.toInt - (0 : Int) + 1).toNat 0 0 h0_state_f h0_month_f h0_school_f h0_wage_f h0_gift_f h0_wish_f (show h0_n.toInt - (0 : Int) < ((h0_n.toInt - (0 : Int) + 1).toNat : Int) from by omega) (show 0 ≤ (0 : Int) from by omega) (show (0 : Int) ≤ 200 from by omega) z_h0_school (show 0 ≤ (0 : Int) from by omega) (show (0 : Int) ≤ h0_n.toInt from by omega) _ _ hP hD hS ls (lv_sub hl [0, 1, 2, 3] rfl)
set_option maxHeartbeats 8000000 in
set_option maxRecDepth 100000 in
theorem k_X6_gapOf (l : Launch) (dC : Nat → ClassId) (dI : Nat → Nat → Nat) (cB cI cJ cZ cP cQ : ClassId) (h0 : Nat) (sz : Nat) (p1 : Int64) (p2 : Int64) (h0_n : Int64) (h0_school : Int64) (h0_wage : Int64) (h0_gift : Int64) (h0_others : Int64) (h0_otherSchool : Int64) (h0_otherWage : Int64) (h0_otherGift : Int64) (h0_schoolSchool : Int64) (h0_schoolWage : Int64) (h0_wageWage : Int64) (e0 : 0 ≤ h0_n.toInt) (e1 : 0 ≤ h0_others.toInt) (e2 : h0_n.toInt ≤ 200) (e3 : h0_others.toInt ≤ 200) (e4 : h0_n.toInt + h0_others.toInt ≤ 200) (e5 : 0 ≤ h0_school.toInt) (e6 : h0_school.toInt ≤ 300 * h0_n.toInt) (e7 : 0 ≤ h0_otherSchool.toInt) (e8 : h0_otherSchool.toInt ≤ 300 * h0_others.toInt) (e9 : 0 ≤ h0_schoolSchool.toInt) (e10 : h0_schoolSchool.toInt ≤ 90000 * (h0_n.toInt + h0_others.toInt)) : Met l yX6_gapOf wsX6_gapOf ({ frames := 0, cells := 0, slots := 0, locals := 0 } : Room) (zPc [.ref h0, .long p1, .long p2] (dC, dI) (zT cB cI cJ cZ cP cQ) [(h0, .inr (6, [.long h0_n, .long h0_school, .long h0_wage, .long h0_gift, .long h0_others, .long h0_otherSchool, .long h0_otherWage, .long h0_otherGift, .long h0_schoolSchool, .long h0_schoolWage, .long h0_wageWage]))] sz [] []) (va_Ql (fun (r : Int64) (u : Unit) => True) (zB (dC, dI) (zT cB cI cJ cZ cP cQ) (fun u : Unit => [(h0, .inr (6, [.long h0_n, .long h0_school, .long h0_wage, .long h0_gift, .long h0_others, .long h0_otherSchool, .long h0_otherWage, .long h0_otherGift, .long h0_schoolSchool, .long h0_schoolWage, .long h0_wageWage]))]) [(h0, .inr (6, [.long h0_n, .long h0_school, .long h0_wage, .long h0_gift, .long h0_others, .long h0_otherSchool, .long h0_otherWage, .long h0_otherGift, .long h0_schoolSchool, .long h0_schoolWage, .long h0_wageWage]))] sz) (va_A [(h0, .inr (6, [.long h0_n, .long h0_school, .long h0_wage, .long h0_gift, .long h0_others, .long h0_otherSchool, .long h0_otherWage, .long h0_otherGift, .long h0_schoolSchool, .long h0_schoolWage, .long h0_wageWage]))] sz)) 0 0 (va_A [(h0, .inr (6, [.long h0_n, .long h0_school, .long h0_wage, .long h0_gift, .long h0_others, .long h0_otherSchool, .long h0_otherWage, .long h0_otherGift, .long h0_schoolSchool, .long h0_schoolWage, .long h0_wageWage]))] sz) := by
  refine z_enter (cc := cX6_gapOf) (maxL := 5) (ret := (some .long)) (by decide) rfl (Nat.le_of_ble_eq_true rfl) ?_
  intro p e s m below meth c A ls Q H locs hx hb hr hml hown hts hlocks hin hK hP hD hA hX hS hAe hQ hl
  have hown : s.vm.findClass RX6 = some m.cls := hown
  have hi6 : ∀ w ∈ wsX60, w ∈ wsX6_gapOf := fun w h => List.mem_cons_of_mem _ (List.mem_append_right _ h)
  have hk0 := hts (.fieldLink RX6 24 "MonthPush$Split" "others" "J") (List.mem_of_getElem? (i := 1) rfl)
  have hk1 := hts (.fieldLink RX6 9 "MonthPush$Split" "n" "J") (List.mem_of_getElem? (i := 2) rfl)
  have hl : lv_has ls 5 [(0, .ref h0), (1, .long p1), (3, .long p2)] := hl
  refine lv_lload_n hx hb dX6_gapOf_0 rfl (lv_at hl 1 rfl) ?_
  refine lv_aload_n hx hb dX6_gapOf_1 rfl (lv_at hl 0 rfl) ?_
  refine va_get (D := (dC, dI)) (ci := 6) (v := .long h0_others) (C := RX6) (T := TX6) (N := 11) hx hb hts hi6 hown hK hP 0 rfl rfl 4 (by decide) hk0 (fun _ h9 => h9) rfl dX6_gapOf_2 ?_
  refine lv_lmul hx hb dX6_gapOf_5 ?_
  refine lv_topl (fun r1 _ => ?_)
  refine lv_lload_n hx hb dX6_gapOf_6 rfl (lv_at hl 2 rfl) ?_
  refine lv_aload_n hx hb dX6_gapOf_7 rfl (lv_at hl 0 rfl) ?_
  refine va_get (D := (dC, dI)) (ci := 6) (v := .long h0_n) (C := RX6) (T := TX6) (N := 11) hx hb hts hi6 hown hK hP 0 rfl rfl 0 (by decide) hk1 (fun _ h9 => h9) rfl dX6_gapOf_8 ?_
  refine lv_lmul hx hb dX6_gapOf_11 ?_
  refine lv_topl (fun r2 _ => ?_)
  refine lv_lsub hx hb dX6_gapOf_12 ?_
  refine lv_topl (fun r3 _ => ?_)
  exact y_lret () hx hb hr hlocks hK hP hD hS hAe hQ rfl trivial dX6_gapOf_13
set_option maxHeartbeats 8000000 in
set_option maxRecDepth 100000 in
theorem k_X6_hasBoth (l : Launch) (dC : Nat → ClassId) (dI : Nat → Nat → Nat) (cB cI cJ cZ cP cQ : ClassId) (h0 : Nat) (sz : Nat) (h0_n : Int64) (h0_school : Int64) (h0_wage : Int64) (h0_gift : Int64) (h0_others : Int64) (h0_otherSchool : Int64) (h0_otherWage : Int64) (h0_otherGift : Int64) (h0_schoolSchool : Int64) (h0_schoolWage : Int64) (h0_wageWage : Int64) (e0 : 0 ≤ h0_n.toInt) (e1 : 0 ≤ h0_others.toInt) (e2 : h0_n.toInt ≤ 200) (e3 : h0_others.toInt ≤ 200) (e4 : h0_n.toInt + h0_others.toInt ≤ 200) (e5 : 0 ≤ h0_school.toInt) (e6 : h0_school.toInt ≤ 300 * h0_n.toInt) (e7 : 0 ≤ h0_otherSchool.toInt) (e8 : h0_otherSchool.toInt ≤ 300 * h0_others.toInt) (e9 : 0 ≤ h0_schoolSchool.toInt) (e10 : h0_schoolSchool.toInt ≤ 90000 * (h0_n.toInt + h0_others.toInt)) : Met l yX6_hasBoth wsX6_hasBoth ({ frames := 0, cells := 0, slots := 0, locals := 0 } : Room) (zPc [.ref h0] (dC, dI) (zT cB cI cJ cZ cP cQ) [(h0, .inr (6, [.long h0_n, .long h0_school, .long h0_wage, .long h0_gift, .long h0_others, .long h0_otherSchool, .long h0_otherWage, .long h0_otherGift, .long h0_schoolSchool, .long h0_schoolWage, .long h0_wageWage]))] sz [] []) (va_Qi (fun (r : Int32) (u : Unit) => (r = 0 ∧ (h0_n.toInt ≤ 0 ∨ (0 < h0_n.toInt ∧ h0_others.toInt ≤ 0))) ∨ (r = 1 ∧ 0 < h0_n.toInt ∧ 0 < h0_others.toInt)) (zB (dC, dI) (zT cB cI cJ cZ cP cQ) (fun u : Unit => [(h0, .inr (6, [.long h0_n, .long h0_school, .long h0_wage, .long h0_gift, .long h0_others, .long h0_otherSchool, .long h0_otherWage, .long h0_otherGift, .long h0_schoolSchool, .long h0_schoolWage, .long h0_wageWage]))]) [(h0, .inr (6, [.long h0_n, .long h0_school, .long h0_wage, .long h0_gift, .long h0_others, .long h0_otherSchool, .long h0_otherWage, .long h0_otherGift, .long h0_schoolSchool, .long h0_schoolWage, .long h0_wageWage]))] sz) (va_A [(h0, .inr (6, [.long h0_n, .long h0_school, .long h0_wage, .long h0_gift, .long h0_others, .long h0_otherSchool, .long h0_otherWage, .long h0_otherGift, .long h0_schoolSchool, .long h0_schoolWage, .long h0_wageWage]))] sz)) 0 0 (va_A [(h0, .inr (6, [.long h0_n, .long h0_school, .long h0_wage, .long h0_gift, .long h0_others, .long h0_otherSchool, .long h0_otherWage, .long h0_otherGift, .long h0_schoolSchool, .long h0_schoolWage, .long h0_wageWage]))] sz) := by
  refine z_enter (cc := cX6_hasBoth) (maxL := 1) (ret := (some .boolean)) (by decide) rfl (Nat.le_of_ble_eq_true rfl) ?_
  intro p e s m below meth c A ls Q H locs hx hb hr hml hown hts hlocks hin hK hP hD hA hX hS hAe hQ hl
  have hown : s.vm.findClass RX6 = some m.cls := hown
  have hi6 : ∀ w ∈ wsX60, w ∈ wsX6_hasBoth := fun w h => List.mem_cons_of_mem _ (List.mem_append_right _ h)
  have hk0 := hts (.fieldLink RX6 9 "MonthPush$Split" "n" "J") (List.mem_of_getElem? (i := 1) rfl)
  have hk1 := hts (.fieldLink RX6 24 "MonthPush$Split" "others" "J") (List.mem_of_getElem? (i := 2) rfl)
  have hl : lv_has ls 1 [(0, .ref h0)] := hl
  refine lv_aload_n hx hb dX6_hasBoth_0 rfl (lv_at hl 0 rfl) ?_
  refine va_get (D := (dC, dI)) (ci := 6) (v := .long h0_n) (C := RX6) (T := TX6) (N := 11) hx hb hts hi6 hown hK hP 0 rfl rfl 0 (by decide) hk0 (fun _ h9 => h9) rfl dX6_hasBoth_1 ?_
  refine lv_lconst (v := 0) hx hb dX6_hasBoth_4 (by decide) ?_
  refine W.lcmp hx hb dX6_hasBoth_5 ?_
  refine lv_if_le (tgt := 22) hx hb dX6_hasBoth_6 (by decide) (fun c_1 => ?_) (fun c_1 => ?_)
  · have f2 : h0_n.toInt ≤ 0 := z_lle rfl (show Int64.toInt 0 = 0 from by decide) c_1
    refine lv_iconst (v := 0) hx hb dX6_hasBoth_22 (by decide) ?_
    exact y_zret () hx hb hr hlocks hK hP hD hS hAe hQ rfl (Or.inl ⟨rfl, (Or.inl f2)⟩) (by decide) dX6_hasBoth_23
  · have f2 : 0 < h0_n.toInt := z_lnle rfl (show Int64.toInt 0 = 0 from by decide) c_1
    refine lv_aload_n hx hb dX6_hasBoth_9 rfl (lv_at hl 0 rfl) ?_
    refine va_get (D := (dC, dI)) (ci := 6) (v := .long h0_others) (C := RX6) (T := TX6) (N := 11) hx hb hts hi6 hown hK hP 0 rfl rfl 4 (by decide) hk1 (fun _ h9 => h9) rfl dX6_hasBoth_10 ?_
    refine lv_lconst (v := 0) hx hb dX6_hasBoth_13 (by decide) ?_
    refine W.lcmp hx hb dX6_hasBoth_14 ?_
    refine lv_if_le (tgt := 22) hx hb dX6_hasBoth_15 (by decide) (fun c_3 => ?_) (fun c_3 => ?_)
    · have f4 : h0_others.toInt ≤ 0 := z_lle rfl (show Int64.toInt 0 = 0 from by decide) c_3
      refine lv_iconst (v := 0) hx hb dX6_hasBoth_22 (by decide) ?_
      exact y_zret () hx hb hr hlocks hK hP hD hS hAe hQ rfl (Or.inl ⟨rfl, (Or.inr ⟨f2, f4⟩)⟩) (by decide) dX6_hasBoth_23
    · have f4 : 0 < h0_others.toInt := z_lnle rfl (show Int64.toInt 0 = 0 from by decide) c_3
      refine lv_iconst (v := 1) hx hb dX6_hasBoth_18 (by decide) ?_
      refine lv_goto (tgt := 23) hx hb dX6_hasBoth_19 (by decide) ?_
      exact y_zret () hx hb hr hlocks hK hP hD hS hAe hQ rfl (Or.inr ⟨rfl, ⟨f2, f4⟩⟩) (by decide) dX6_hasBoth_23
set_option maxHeartbeats 8000000 in
set_option maxRecDepth 100000 in
theorem k_X6_byMovedLess (l : Launch) (dC : Nat → ClassId) (dI : Nat → Nat → Nat) (cB cI cJ cZ cP cQ : ClassId) (h0 : Nat) (sz : Nat) (p1 : Int64) (h0_n : Int64) (h0_school : Int64) (h0_wage : Int64) (h0_gift : Int64) (h0_others : Int64) (h0_otherSchool : Int64) (h0_otherWage : Int64) (h0_otherGift : Int64) (h0_schoolSchool : Int64) (h0_schoolWage : Int64) (h0_wageWage : Int64) (e0 : 0 ≤ h0_n.toInt) (e1 : 0 ≤ h0_others.toInt) (e2 : h0_n.toInt ≤ 200) (e3 : h0_others.toInt ≤ 200) (e4 : h0_n.toInt + h0_others.toInt ≤ 200) (e5 : 0 ≤ h0_school.toInt) (e6 : h0_school.toInt ≤ 300 * h0_n.toInt) (e7 : 0 ≤ h0_otherSchool.toInt) (e8 : h0_otherSchool.toInt ≤ 300 * h0_others.toInt) (e9 : 0 ≤ h0_schoolSchool.toInt) (e10 : h0_schoolSchool.toInt ≤ 90000 * (h0_n.toInt + h0_others.toInt)) : Met l yX6_byMovedLess wsX6_byMovedLess ({ frames := 1, cells := 0, slots := 0, locals := 24 } : Room) (zPc [.ref h0, .long p1] (dC, dI) (zT cB cI cJ cZ cP cQ) [(h0, .inr (6, [.long h0_n, .long h0_school, .long h0_wage, .long h0_gift, .long h0_others, .long h0_otherSchool, .long h0_otherWage, .long h0_otherGift, .long h0_schoolSchool, .long h0_schoolWage, .long h0_wageWage]))] sz [] []) (va_Ql (fun (r : Int64) (u : Unit) => (r = (-9000000000000000000) ∧ (((h0_n.toInt ≤ 0 ∨ (0 < h0_n.toInt ∧ h0_others.toInt ≤ 0))) ∨ ((0 < h0_n.toInt ∧ 0 < h0_others.toInt)))) ∨ (True)) (zB (dC, dI) (zT cB cI cJ cZ cP cQ) (fun u : Unit => [(h0, .inr (6, [.long h0_n, .long h0_school, .long h0_wage, .long h0_gift, .long h0_others, .long h0_otherSchool, .long h0_otherWage, .long h0_otherGift, .long h0_schoolSchool, .long h0_schoolWage, .long h0_wageWage]))]) [(h0, .inr (6, [.long h0_n, .long h0_school, .long h0_wage, .long h0_gift, .long h0_others, .long h0_otherSchool, .long h0_otherWage, .long h0_otherGift, .long h0_schoolSchool, .long h0_schoolWage, .long h0_wageWage]))] sz) (va_A [(h0, .inr (6, [.long h0_n, .long h0_school, .long h0_wage, .long h0_gift, .long h0_others, .long h0_otherSchool, .long h0_otherWage, .long h0_otherGift, .long h0_schoolSchool, .long h0_schoolWage, .long h0_wageWage]))] sz)) 0 0 (va_A [(h0, .inr (6, [.long h0_n, .long h0_school, .long h0_wage, .long h0_gift, .long h0_others, .long h0_otherSchool, .long h0_otherWage, .long h0_otherGift, .long h0_schoolSchool, .long h0_schoolWage, .long h0_wageWage]))] sz) := by
  refine z_enter (cc := cX6_byMovedLess) (maxL := 5) (ret := (some .long)) (by decide) rfl (Nat.le_of_ble_eq_true rfl) ?_
  intro p e s m below meth c A ls Q H locs hx hb hr hml hown hts hlocks hin hK hP hD hA hX hS hAe hQ hl
  have hown : s.vm.findClass RX6 = some m.cls := hown
  have hi6 : ∀ w ∈ wsX60, w ∈ wsX6_byMovedLess := fun w h => List.mem_cons_of_mem _ (List.mem_append_right _ h)
  have hk0 := hts (.fieldLink RX6 15 "MonthPush$Split" "school" "J") (List.mem_of_getElem? (i := 1) rfl)
  have hk1 := hts (.fieldLink RX6 27 "MonthPush$Split" "otherSchool" "J") (List.mem_of_getElem? (i := 2) rfl)
  have hk2 := hts (.constantLong RX6 64 (-9000000000000000000)) (List.mem_of_getElem? (i := 3) rfl)
  have hk3 := hts (.constantLong RX6 69 1000) (List.mem_of_getElem? (i := 4) rfl)
  have hk4 := hts (.fieldLink RX6 18 "MonthPush$Split" "wage" "J") (List.mem_of_getElem? (i := 5) rfl)
  have hk5 := hts (.fieldLink RX6 30 "MonthPush$Split" "otherWage" "J") (List.mem_of_getElem? (i := 6) rfl)
  have hk6 := hts (.fieldLink RX6 9 "MonthPush$Split" "n" "J") (List.mem_of_getElem? (i := 7) rfl)
  have hk7 := hts (.fieldLink RX6 24 "MonthPush$Split" "others" "J") (List.mem_of_getElem? (i := 8) rfl)
  have hl : lv_has ls 5 [(0, .ref h0), (1, .long p1)] := hl
  refine lv_aload_n hx hb dX6_byMovedLess_0 rfl (lv_at hl 0 rfl) ?_
  refine lv_aload_n hx hb dX6_byMovedLess_1 rfl (lv_at hl 0 rfl) ?_
  refine va_get (D := (dC, dI)) (ci := 6) (v := .long h0_school) (C := RX6) (T := TX6) (N := 11) hx hb hts hi6 hown hK hP 0 rfl rfl 1 (by decide) hk0 (fun _ h9 => h9) rfl dX6_byMovedLess_2 ?_
  refine lv_aload_n hx hb dX6_byMovedLess_5 rfl (lv_at hl 0 rfl) ?_
  refine va_get (D := (dC, dI)) (ci := 6) (v := .long h0_otherSchool) (C := RX6) (T := TX6) (N := 11) hx hb hts hi6 hown hK hP 0 rfl rfl 5 (by decide) hk1 (fun _ h9 => h9) rfl dX6_byMovedLess_6 ?_
  refine y_finl (w' := fun (u1 : Unit) => [(h0, .inr (6, [.long h0_n, .long h0_school, .long h0_wage, .long h0_gift, .long h0_others, .long h0_otherSchool, .long h0_otherWage, .long h0_otherGift, .long h0_schoolSchool, .long h0_schoolWage, .long h0_wageWage]))]) (va_runV (As := [.long h0_school, .long h0_otherSchool]) (rest := []) ⟨hx, hb, hml, hown, hts⟩ (k_X6_gapOf l dC dI cB cI cJ cZ cP cQ h0 H.size h0_school h0_otherSchool h0_n h0_school h0_wage h0_gift h0_others h0_otherSchool h0_otherWage h0_otherGift h0_schoolSchool h0_schoolWage h0_wageWage (show 0 ≤ h0_n.toInt from by omega) (show 0 ≤ h0_others.toInt from by omega) (show h0_n.toInt ≤ 200 from by omega) (show h0_others.toInt ≤ 200 from by omega) (show h0_n.toInt + h0_others.toInt ≤ 200 from by omega) (show 0 ≤ h0_school.toInt from by omega) (show h0_school.toInt ≤ 300 * h0_n.toInt from by omega) (show 0 ≤ h0_otherSchool.toInt from by omega) (show h0_otherSchool.toInt ≤ 300 * h0_others.toInt from by omega) (show 0 ≤ h0_schoolSchool.toInt from by omega) (show h0_schoolSchool.toInt ≤ 90000 * (h0_n.toInt + h0_others.toInt) from by omega)) (cwV 2 hts gX6_byMovedLess_X6_gapOf rfl rfl rfl ⟨rfl, hd_X6_gapOf⟩ ⟨Nat.le_of_ble_eq_true rfl, Nat.le_of_ble_eq_true rfl⟩) (z_pV (ci := 6) hK hP hD zX_nil [0] (by decide) rfl rfl 0 rfl) rfl rfl hl.1 rfl (lv_room (Nat.le_of_ble_eq_true rfl)) dX6_byMovedLess_9 ⟨Nat.le_of_ble_eq_true rfl, Nat.le_of_ble_eq_true rfl⟩) hP hD hS hA [0] [] [0] rfl rfl (by decide) (by decide) (fun _ => rfl) (by decide) (fun r2 u1 H locs hp3 hP hD hS => ?_)
  have hP : va_P (dC, dI) vwCl [(h0, .inr (6, [.long h0_n, .long h0_school, .long h0_wage, .long h0_gift, .long h0_others, .long h0_otherSchool, .long h0_otherWage, .long h0_otherGift, .long h0_schoolSchool, .long h0_schoolWage, .long h0_wageWage]))] H := hP
  have hD : va_D A [(h0, .inr (6, [.long h0_n, .long h0_school, .long h0_wage, .long h0_gift, .long h0_others, .long h0_otherSchool, .long h0_otherWage, .long h0_otherGift, .long h0_schoolSchool, .long h0_schoolWage, .long h0_wageWage]))] := hD
  have hp3 : True := hp3
  refine lv_lstore_n (lv' := [(3, .long r2), (0, .ref h0), (1, .long p1)]) hx hb dX6_byMovedLess_12 rfl hl (by decide) rfl (fun ls hl => ?_)
  refine lv_aload_n hx hb dX6_byMovedLess_13 rfl (lv_at hl 1 rfl) ?_
  refine y_fini (w' := fun (u5 : Unit) => [(h0, .inr (6, [.long h0_n, .long h0_school, .long h0_wage, .long h0_gift, .long h0_others, .long h0_otherSchool, .long h0_otherWage, .long h0_otherGift, .long h0_schoolSchool, .long h0_schoolWage, .long h0_wageWage]))]) (va_runV (As := []) (rest := []) ⟨hx, hb, hml, hown, hts⟩ (k_X6_hasBoth l dC dI cB cI cJ cZ cP cQ h0 H.size h0_n h0_school h0_wage h0_gift h0_others h0_otherSchool h0_otherWage h0_otherGift h0_schoolSchool h0_schoolWage h0_wageWage (show 0 ≤ h0_n.toInt from by omega) (show 0 ≤ h0_others.toInt from by omega) (show h0_n.toInt ≤ 200 from by omega) (show h0_others.toInt ≤ 200 from by omega) (show h0_n.toInt + h0_others.toInt ≤ 200 from by omega) (show 0 ≤ h0_school.toInt from by omega) (show h0_school.toInt ≤ 300 * h0_n.toInt from by omega) (show 0 ≤ h0_otherSchool.toInt from by omega) (show h0_otherSchool.toInt ≤ 300 * h0_others.toInt from by omega) (show 0 ≤ h0_schoolSchool.toInt from by omega) (show h0_schoolSchool.toInt ≤ 90000 * (h0_n.toInt + h0_others.toInt) from by omega)) (cwV 0 hts gX6_byMovedLess_X6_hasBoth rfl rfl rfl ⟨rfl, hd_X6_hasBoth⟩ ⟨Nat.le_of_ble_eq_true rfl, Nat.le_of_ble_eq_true rfl⟩) (z_pV (ci := 6) hK hP hD zX_nil [0] (by decide) rfl rfl 0 rfl) rfl rfl hl.1 rfl (lv_room (Nat.le_of_ble_eq_true rfl)) dX6_byMovedLess_14 ⟨Nat.le_of_ble_eq_true rfl, Nat.le_of_ble_eq_true rfl⟩) hP hD hS hA [0] [] [0] rfl rfl (by decide) (by decide) (fun _ => rfl) (by decide) (fun r6 u5 H locs hp7 hP hD hS => ?_)
  have hP : va_P (dC, dI) vwCl [(h0, .inr (6, [.long h0_n, .long h0_school, .long h0_wage, .long h0_gift, .long h0_others, .long h0_otherSchool, .long h0_otherWage, .long h0_otherGift, .long h0_schoolSchool, .long h0_schoolWage, .long h0_wageWage]))] H := hP
  have hD : va_D A [(h0, .inr (6, [.long h0_n, .long h0_school, .long h0_wage, .long h0_gift, .long h0_others, .long h0_otherSchool, .long h0_otherWage, .long h0_otherGift, .long h0_schoolSchool, .long h0_schoolWage, .long h0_wageWage]))] := hD
  have hp7 : (r6 = 0 ∧ (h0_n.toInt ≤ 0 ∨ (0 < h0_n.toInt ∧ h0_others.toInt ≤ 0))) ∨ (r6 = 1 ∧ 0 < h0_n.toInt ∧ 0 < h0_others.toInt) := hp7
  rcases hp7 with f8 | f9
  · obtain ⟨rfl, f8⟩ := f8
    refine lv_if_eq (tgt := 26) hx hb dX6_byMovedLess_17 (by decide) (fun _ => ?_) (fun c => absurd (by decide) c)
    refine lv_ldc2 hx hb hown hk2 dX6_byMovedLess_26 ?_
    exact y_lret () hx hb hr hlocks hK hP hD hS hAe hQ rfl (Or.inl ⟨rfl, (Or.inl f8)⟩) dX6_byMovedLess_29
  · obtain ⟨rfl, f9⟩ := f9
    refine lv_if_eq (tgt := 26) hx hb dX6_byMovedLess_17 (by decide) (fun c => absurd c (by decide)) (fun _ => ?_)
    refine lv_lload_n hx hb dX6_byMovedLess_20 rfl (lv_at hl 0 rfl) ?_
    refine lv_lconst (v := 0) hx hb dX6_byMovedLess_21 (by decide) ?_
    refine W.lcmp hx hb dX6_byMovedLess_22 ?_
    refine lv_if_ne (tgt := 30) hx hb dX6_byMovedLess_23 (by decide) (fun c_10 => ?_) (fun c_10 => ?_)
    · have f11 : ¬ r2.toInt = 0 := z_lne rfl (show Int64.toInt 0 = 0 from by decide) c_10
      refine lv_ldc2 hx hb hown hk3 dX6_byMovedLess_30 ?_
      refine lv_aload_n hx hb dX6_byMovedLess_33 rfl (lv_at hl 1 rfl) ?_
      refine lv_aload_n hx hb dX6_byMovedLess_34 rfl (lv_at hl 1 rfl) ?_
      refine va_get (D := (dC, dI)) (ci := 6) (v := .long h0_wage) (C := RX6) (T := TX6) (N := 11) hx hb hts hi6 hown hK hP 0 rfl rfl 2 (by decide) hk4 (fun _ h9 => h9) rfl dX6_byMovedLess_35 ?_
      refine lv_aload_n hx hb dX6_byMovedLess_38 rfl (lv_at hl 1 rfl) ?_
      refine va_get (D := (dC, dI)) (ci := 6) (v := .long h0_otherWage) (C := RX6) (T := TX6) (N := 11) hx hb hts hi6 hown hK hP 0 rfl rfl 6 (by decide) hk5 (fun _ h9 => h9) rfl dX6_byMovedLess_39 ?_
      refine y_finl (w' := fun (u12 : Unit) => [(h0, .inr (6, [.long h0_n, .long h0_school, .long h0_wage, .long h0_gift, .long h0_others, .long h0_otherSchool, .long h0_otherWage, .long h0_otherGift, .long h0_schoolSchool, .long h0_schoolWage, .long h0_wageWage]))]) (va_runV (As := [.long h0_wage, .long h0_otherWage]) (rest := [.long 1000]) ⟨hx, hb, hml, hown, hts⟩ (k_X6_gapOf l dC dI cB cI cJ cZ cP cQ h0 H.size h0_wage h0_otherWage h0_n h0_school h0_wage h0_gift h0_others h0_otherSchool h0_otherWage h0_otherGift h0_schoolSchool h0_schoolWage h0_wageWage (show 0 ≤ h0_n.toInt from by omega) (show 0 ≤ h0_others.toInt from by omega) (show h0_n.toInt ≤ 200 from by omega) (show h0_others.toInt ≤ 200 from by omega) (show h0_n.toInt + h0_others.toInt ≤ 200 from by omega) (show 0 ≤ h0_school.toInt from by omega) (show h0_school.toInt ≤ 300 * h0_n.toInt from by omega) (show 0 ≤ h0_otherSchool.toInt from by omega) (show h0_otherSchool.toInt ≤ 300 * h0_others.toInt from by omega) (show 0 ≤ h0_schoolSchool.toInt from by omega) (show h0_schoolSchool.toInt ≤ 90000 * (h0_n.toInt + h0_others.toInt) from by omega)) (cwV 2 hts gX6_byMovedLess_X6_gapOf rfl rfl rfl ⟨rfl, hd_X6_gapOf⟩ ⟨Nat.le_of_ble_eq_true rfl, Nat.le_of_ble_eq_true rfl⟩) (z_pV (ci := 6) hK hP hD zX_nil [0] (by decide) rfl rfl 0 rfl) rfl rfl hl.1 rfl (lv_room (Nat.le_of_ble_eq_true rfl)) dX6_byMovedLess_42 ⟨Nat.le_of_ble_eq_true rfl, Nat.le_of_ble_eq_true rfl⟩) hP hD hS hA [0] [] [0] rfl rfl (by decide) (by decide) (fun _ => rfl) (by decide) (fun r13 u12 H locs hp14 hP hD hS => ?_)
      have hP : va_P (dC, dI) vwCl [(h0, .inr (6, [.long h0_n, .long h0_school, .long h0_wage, .long h0_gift, .long h0_others, .long h0_otherSchool, .long h0_otherWage, .long h0_otherGift, .long h0_schoolSchool, .long h0_schoolWage, .long h0_wageWage]))] H := hP
      have hD : va_D A [(h0, .inr (6, [.long h0_n, .long h0_school, .long h0_wage, .long h0_gift, .long h0_others, .long h0_otherSchool, .long h0_otherWage, .long h0_otherGift, .long h0_schoolSchool, .long h0_schoolWage, .long h0_wageWage]))] := hD
      have hp14 : True := hp14
      refine lv_lmul hx hb dX6_byMovedLess_45 ?_
      refine lv_topl (fun r16 _ => ?_)
      refine lv_lload_n hx hb dX6_byMovedLess_46 rfl (lv_at hl 2 rfl) ?_
      refine lv_aload_n hx hb dX6_byMovedLess_47 rfl (lv_at hl 1 rfl) ?_
      refine va_get (D := (dC, dI)) (ci := 6) (v := .long h0_n) (C := RX6) (T := TX6) (N := 11) hx hb hts hi6 hown hK hP 0 rfl rfl 0 (by decide) hk6 (fun _ h9 => h9) rfl dX6_byMovedLess_48 ?_
      refine lv_lmul hx hb dX6_byMovedLess_51 ?_
      refine lv_topl (fun r17 _ => ?_)
      refine lv_aload_n hx hb dX6_byMovedLess_52 rfl (lv_at hl 1 rfl) ?_
      refine va_get (D := (dC, dI)) (ci := 6) (v := .long h0_others) (C := RX6) (T := TX6) (N := 11) hx hb hts hi6 hown hK hP 0 rfl rfl 4 (by decide) hk7 (fun _ h9 => h9) rfl dX6_byMovedLess_53 ?_
      refine lv_lmul hx hb dX6_byMovedLess_56 ?_
      refine lv_topl (fun r18 _ => ?_)
      refine lv_lsub hx hb dX6_byMovedLess_57 ?_
      refine lv_topl (fun r19 _ => ?_)
      refine lv_lload_n hx hb dX6_byMovedLess_58 rfl (lv_at hl 0 rfl) ?_
      refine lv_ldiv hx hb dX6_byMovedLess_59 (z_nl0 rfl (by omega)) ?_
      refine lv_topl (fun r20 h21 => ?_)
      exact y_lret () hx hb hr hlocks hK hP hD hS hAe hQ rfl (Or.inr trivial) dX6_byMovedLess_60
    · have f11 : r2.toInt = 0 := z_leq rfl (show Int64.toInt 0 = 0 from by decide) c_10
      refine lv_ldc2 hx hb hown hk2 dX6_byMovedLess_26 ?_
      exact y_lret () hx hb hr hlocks hK hP hD hS hAe hQ rfl (Or.inl ⟨rfl, (Or.inr f9)⟩) dX6_byMovedLess_29
set_option maxHeartbeats 8000000 in
set_option maxRecDepth 100000 in
theorem k_X6_byMoved (l : Launch) (dC : Nat → ClassId) (dI : Nat → Nat → Nat) (cB cI cJ cZ cP cQ : ClassId) (h0 : Nat) (sz : Nat) (h0_n : Int64) (h0_school : Int64) (h0_wage : Int64) (h0_gift : Int64) (h0_others : Int64) (h0_otherSchool : Int64) (h0_otherWage : Int64) (h0_otherGift : Int64) (h0_schoolSchool : Int64) (h0_schoolWage : Int64) (h0_wageWage : Int64) (e0 : 0 ≤ h0_n.toInt) (e1 : 0 ≤ h0_others.toInt) (e2 : h0_n.toInt ≤ 200) (e3 : h0_others.toInt ≤ 200) (e4 : h0_n.toInt + h0_others.toInt ≤ 200) (e5 : 0 ≤ h0_school.toInt) (e6 : h0_school.toInt ≤ 300 * h0_n.toInt) (e7 : 0 ≤ h0_otherSchool.toInt) (e8 : h0_otherSchool.toInt ≤ 300 * h0_others.toInt) (e9 : 0 ≤ h0_schoolSchool.toInt) (e10 : h0_schoolSchool.toInt ≤ 90000 * (h0_n.toInt + h0_others.toInt)) : Met l yX6_byMoved wsX6_byMoved ({ frames := 2, cells := 0, slots := 0, locals := 48 } : Room) (zPc [.ref h0] (dC, dI) (zT cB cI cJ cZ cP cQ) [(h0, .inr (6, [.long h0_n, .long h0_school, .long h0_wage, .long h0_gift, .long h0_others, .long h0_otherSchool, .long h0_otherWage, .long h0_otherGift, .long h0_schoolSchool, .long h0_schoolWage, .long h0_wageWage]))] sz [] []) (va_Ql (fun (r : Int64) (u : Unit) => (r = (-9000000000000000000) ∧ ((((h0_n.toInt ≤ 0 ∨ (0 < h0_n.toInt ∧ h0_others.toInt ≤ 0))) ∨ ((0 < h0_n.toInt ∧ 0 < h0_others.toInt))))) ∨ (True)) (zB (dC, dI) (zT cB cI cJ cZ cP cQ) (fun u : Unit => [(h0, .inr (6, [.long h0_n, .long h0_school, .long h0_wage, .long h0_gift, .long h0_others, .long h0_otherSchool, .long h0_otherWage, .long h0_otherGift, .long h0_schoolSchool, .long h0_schoolWage, .long h0_wageWage]))]) [(h0, .inr (6, [.long h0_n, .long h0_school, .long h0_wage, .long h0_gift, .long h0_others, .long h0_otherSchool, .long h0_otherWage, .long h0_otherGift, .long h0_schoolSchool, .long h0_schoolWage, .long h0_wageWage]))] sz) (va_A [(h0, .inr (6, [.long h0_n, .long h0_school, .long h0_wage, .long h0_gift, .long h0_others, .long h0_otherSchool, .long h0_otherWage, .long h0_otherGift, .long h0_schoolSchool, .long h0_schoolWage, .long h0_wageWage]))] sz)) 0 0 (va_A [(h0, .inr (6, [.long h0_n, .long h0_school, .long h0_wage, .long h0_gift, .long h0_others, .long h0_otherSchool, .long h0_otherWage, .long h0_otherGift, .long h0_schoolSchool, .long h0_schoolWage, .long h0_wageWage]))] sz) := by
  refine z_enter (cc := cX6_byMoved) (maxL := 1) (ret := (some .long)) (by decide) rfl (Nat.le_of_ble_eq_true rfl) ?_
  intro p e s m below meth c A ls Q H locs hx hb hr hml hown hts hlocks hin hK hP hD hA hX hS hAe hQ hl
  have hown : s.vm.findClass RX6 = some m.cls := hown
  have hl : lv_has ls 1 [(0, .ref h0)] := hl
  refine lv_aload_n hx hb dX6_byMoved_0 rfl (lv_at hl 0 rfl) ?_
  refine lv_lconst (v := 0) hx hb dX6_byMoved_1 (by decide) ?_
  refine y_finl (w' := fun (u1 : Unit) => [(h0, .inr (6, [.long h0_n, .long h0_school, .long h0_wage, .long h0_gift, .long h0_others, .long h0_otherSchool, .long h0_otherWage, .long h0_otherGift, .long h0_schoolSchool, .long h0_schoolWage, .long h0_wageWage]))]) (va_runV (As := [.long 0]) (rest := []) ⟨hx, hb, hml, hown, hts⟩ (k_X6_byMovedLess l dC dI cB cI cJ cZ cP cQ h0 H.size 0 h0_n h0_school h0_wage h0_gift h0_others h0_otherSchool h0_otherWage h0_otherGift h0_schoolSchool h0_schoolWage h0_wageWage (show 0 ≤ h0_n.toInt from by omega) (show 0 ≤ h0_others.toInt from by omega) (show h0_n.toInt ≤ 200 from by omega) (show h0_others.toInt ≤ 200 from by omega) (show h0_n.toInt + h0_others.toInt ≤ 200 from by omega) (show 0 ≤ h0_school.toInt from by omega) (show h0_school.toInt ≤ 300 * h0_n.toInt from by omega) (show 0 ≤ h0_otherSchool.toInt from by omega) (show h0_otherSchool.toInt ≤ 300 * h0_others.toInt from by omega) (show 0 ≤ h0_schoolSchool.toInt from by omega) (show h0_schoolSchool.toInt ≤ 90000 * (h0_n.toInt + h0_others.toInt) from by omega)) (cwV 1 hts gX6_byMoved_X6_byMovedLess rfl rfl rfl ⟨rfl, hd_X6_byMovedLess⟩ ⟨Nat.le_of_ble_eq_true rfl, Nat.le_of_ble_eq_true rfl⟩) (z_pV (ci := 6) hK hP hD zX_nil [0] (by decide) rfl rfl 0 rfl) rfl rfl hl.1 rfl (lv_room (Nat.le_of_ble_eq_true rfl)) dX6_byMoved_2 ⟨Nat.le_of_ble_eq_true rfl, Nat.le_of_ble_eq_true rfl⟩) hP hD hS hA [0] [] [0] rfl rfl (by decide) (by decide) (fun _ => rfl) (by decide) (fun r2 u1 H locs hp3 hP hD hS => ?_)
  have hP : va_P (dC, dI) vwCl [(h0, .inr (6, [.long h0_n, .long h0_school, .long h0_wage, .long h0_gift, .long h0_others, .long h0_otherSchool, .long h0_otherWage, .long h0_otherGift, .long h0_schoolSchool, .long h0_schoolWage, .long h0_wageWage]))] H := hP
  have hD : va_D A [(h0, .inr (6, [.long h0_n, .long h0_school, .long h0_wage, .long h0_gift, .long h0_others, .long h0_otherSchool, .long h0_otherWage, .long h0_otherGift, .long h0_schoolSchool, .long h0_schoolWage, .long h0_wageWage]))] := hD
  have hp3 : (r2 = (-9000000000000000000) ∧ (((h0_n.toInt ≤ 0 ∨ (0 < h0_n.toInt ∧ h0_others.toInt ≤ 0))) ∨ ((0 < h0_n.toInt ∧ 0 < h0_others.toInt)))) ∨ (True) := hp3
  rcases hp3 with f4 | f5
  · obtain ⟨rfl, f4⟩ := f4
    exact y_lret () hx hb hr hlocks hK hP hD hS hAe hQ rfl (Or.inl ⟨rfl, f4⟩) dX6_byMoved_5
  · exact y_lret () hx hb hr hlocks hK hP hD hS hAe hQ rfl (Or.inr trivial) dX6_byMoved_5
set_option maxHeartbeats 8000000 in
set_option maxRecDepth 100000 in
theorem k_X6_clear (l : Launch) (dC : Nat → ClassId) (dI : Nat → Nat → Nat) (cB cI cJ cZ cP cQ : ClassId) (h0 : Nat) (sz : Nat) (h0_n : Int64) (h0_school : Int64) (h0_wage : Int64) (h0_gift : Int64) (h0_others : Int64) (h0_otherSchool : Int64) (h0_otherWage : Int64) (h0_otherGift : Int64) (h0_schoolSchool : Int64) (h0_schoolWage : Int64) (h0_wageWage : Int64) (e0 : 0 ≤ h0_n.toInt) (e1 : 0 ≤ h0_others.toInt) (e2 : h0_n.toInt ≤ 200) (e3 : h0_others.toInt ≤ 200) (e4 : h0_n.toInt + h0_others.toInt ≤ 200) (e5 : 0 ≤ h0_school.toInt) (e6 : h0_school.toInt ≤ 300 * h0_n.toInt) (e7 : 0 ≤ h0_otherSchool.toInt) (e8 : h0_otherSchool.toInt ≤ 300 * h0_others.toInt) (e9 : 0 ≤ h0_schoolSchool.toInt) (e10 : h0_schoolSchool.toInt ≤ 90000 * (h0_n.toInt + h0_others.toInt)) : Met l yX6_clear wsX6_clear ({ frames := 0, cells := 0, slots := 0, locals := 0 } : Room) (zPc [.ref h0] (dC, dI) (zT cB cI cJ cZ cP cQ) [(h0, .inr (6, [.long h0_n, .long h0_school, .long h0_wage, .long h0_gift, .long h0_others, .long h0_otherSchool, .long h0_otherWage, .long h0_otherGift, .long h0_schoolSchool, .long h0_schoolWage, .long h0_wageWage]))] sz [] []) (va_Qv (fun (u : Int64 × Int64 × Int64 × Int64 × Int64 × Int64 × Int64 × Int64 × Int64 × Int64 × Int64) => 0 ≤ u.1.toInt ∧ 0 ≤ u.2.2.2.2.1.toInt ∧ u.1.toInt ≤ 200 ∧ u.2.2.2.2.1.toInt ≤ 200 ∧ u.1.toInt + u.2.2.2.2.1.toInt ≤ 200 ∧ 0 ≤ u.2.1.toInt ∧ u.2.1.toInt ≤ 300 * u.1.toInt ∧ 0 ≤ u.2.2.2.2.2.1.toInt ∧ u.2.2.2.2.2.1.toInt ≤ 300 * u.2.2.2.2.1.toInt ∧ 0 ≤ u.2.2.2.2.2.2.2.2.1.toInt ∧ u.2.2.2.2.2.2.2.2.1.toInt ≤ 90000 * (u.1.toInt + u.2.2.2.2.1.toInt) ∧ u.1.toInt = 0 ∧ u.2.2.2.2.1.toInt = 0) (zB (dC, dI) (zT cB cI cJ cZ cP cQ) (fun u : Int64 × Int64 × Int64 × Int64 × Int64 × Int64 × Int64 × Int64 × Int64 × Int64 × Int64 => [(h0, .inr (6, [.long u.1, .long u.2.1, .long u.2.2.1, .long u.2.2.2.1, .long u.2.2.2.2.1, .long u.2.2.2.2.2.1, .long u.2.2.2.2.2.2.1, .long u.2.2.2.2.2.2.2.1, .long u.2.2.2.2.2.2.2.2.1, .long u.2.2.2.2.2.2.2.2.2.1, .long u.2.2.2.2.2.2.2.2.2.2]))]) [(h0, .inr (6, [.long h0_n, .long h0_school, .long h0_wage, .long h0_gift, .long h0_others, .long h0_otherSchool, .long h0_otherWage, .long h0_otherGift, .long h0_schoolSchool, .long h0_schoolWage, .long h0_wageWage]))] sz) (va_A [(h0, .inr (6, [.long h0_n, .long h0_school, .long h0_wage, .long h0_gift, .long h0_others, .long h0_otherSchool, .long h0_otherWage, .long h0_otherGift, .long h0_schoolSchool, .long h0_schoolWage, .long h0_wageWage]))] sz)) 0 0 (va_A [(h0, .inr (6, [.long h0_n, .long h0_school, .long h0_wage, .long h0_gift, .long h0_others, .long h0_otherSchool, .long h0_otherWage, .long h0_otherGift, .long h0_schoolSchool, .long h0_schoolWage, .long h0_wageWage]))] sz) := by
  refine z_enter (cc := cX6_clear) (maxL := 1) (ret := none) (by decide) rfl (Nat.le_of_ble_eq_true rfl) ?_
  intro p e s m below meth c A ls Q H locs hx hb hr hml hown hts hlocks hin hK hP hD hA hX hS hAe hQ hl
  have hown : s.vm.findClass RX6 = some m.cls := hown
  have hi6 : ∀ w ∈ wsX60, w ∈ wsX6_clear := fun w h => List.mem_cons_of_mem _ (List.mem_append_right _ h)
  have hk0 := hts (.fieldLink RX6 9 "MonthPush$Split" "n" "J") (List.mem_of_getElem? (i := 1) rfl)
  have hk1 := hts (.fieldLink RX6 15 "MonthPush$Split" "school" "J") (List.mem_of_getElem? (i := 2) rfl)
  have hk2 := hts (.fieldLink RX6 18 "MonthPush$Split" "wage" "J") (List.mem_of_getElem? (i := 3) rfl)
  have hk3 := hts (.fieldLink RX6 21 "MonthPush$Split" "gift" "J") (List.mem_of_getElem? (i := 4) rfl)
  have hk4 := hts (.fieldLink RX6 24 "MonthPush$Split" "others" "J") (List.mem_of_getElem? (i := 5) rfl)
  have hk5 := hts (.fieldLink RX6 27 "MonthPush$Split" "otherSchool" "J") (List.mem_of_getElem? (i := 6) rfl)
  have hk6 := hts (.fieldLink RX6 30 "MonthPush$Split" "otherWage" "J") (List.mem_of_getElem? (i := 7) rfl)
  have hk7 := hts (.fieldLink RX6 33 "MonthPush$Split" "otherGift" "J") (List.mem_of_getElem? (i := 8) rfl)
  have hk8 := hts (.fieldLink RX6 36 "MonthPush$Split" "schoolSchool" "J") (List.mem_of_getElem? (i := 9) rfl)
  have hk9 := hts (.fieldLink RX6 39 "MonthPush$Split" "schoolWage" "J") (List.mem_of_getElem? (i := 10) rfl)
  have hk10 := hts (.fieldLink RX6 42 "MonthPush$Split" "wageWage" "J") (List.mem_of_getElem? (i := 11) rfl)
  have hl : lv_has ls 1 [(0, .ref h0)] := hl
  refine lv_aload_n hx hb dX6_clear_0 rfl (lv_at hl 0 rfl) ?_
  refine lv_lconst (v := 0) hx hb dX6_clear_1 (by decide) ?_
  refine va_put (D := (dC, dI)) (ci := 6) (v := .long 0) (ty := .long) (C := RX6) (T := TX6) (N := 11) hx hb hts hi6 tyX6 tyX6_ok nmX6 hown hK hP hD hS 0 rfl rfl 0 (by decide) hk0 (fun _ h9 => h9) rfl (by decide +kernel) rfl rfl (Nat.le_of_ble_eq_true rfl) dX6_clear_2 (fun H locs hP hD hS => ?_)
  have hP : va_P (dC, dI) vwCl [(h0, .inr (6, [.long 0, .long h0_school, .long h0_wage, .long h0_gift, .long h0_others, .long h0_otherSchool, .long h0_otherWage, .long h0_otherGift, .long h0_schoolSchool, .long h0_schoolWage, .long h0_wageWage]))] H := hP
  have hD : va_D A [(h0, .inr (6, [.long 0, .long h0_school, .long h0_wage, .long h0_gift, .long h0_others, .long h0_otherSchool, .long h0_otherWage, .long h0_otherGift, .long h0_schoolSchool, .long h0_schoolWage, .long h0_wageWage]))] := hD
  refine lv_aload_n hx hb dX6_clear_5 rfl (lv_at hl 0 rfl) ?_
  refine lv_lconst (v := 0) hx hb dX6_clear_6 (by decide) ?_
  refine va_put (D := (dC, dI)) (ci := 6) (v := .long 0) (ty := .long) (C := RX6) (T := TX6) (N := 11) hx hb hts hi6 tyX6 tyX6_ok nmX6 hown hK hP hD hS 0 rfl rfl 1 (by decide) hk1 (fun _ h9 => h9) rfl (by decide +kernel) rfl rfl (Nat.le_of_ble_eq_true rfl) dX6_clear_7 (fun H locs hP hD hS => ?_)
  have hP : va_P (dC, dI) vwCl [(h0, .inr (6, [.long 0, .long 0, .long h0_wage, .long h0_gift, .long h0_others, .long h0_otherSchool, .long h0_otherWage, .long h0_otherGift, .long h0_schoolSchool, .long h0_schoolWage, .long h0_wageWage]))] H := hP
  have hD : va_D A [(h0, .inr (6, [.long 0, .long 0, .long h0_wage, .long h0_gift, .long h0_others, .long h0_otherSchool, .long h0_otherWage, .long h0_otherGift, .long h0_schoolSchool, .long h0_schoolWage, .long h0_wageWage]))] := hD
  refine lv_aload_n hx hb dX6_clear_10 rfl (lv_at hl 0 rfl) ?_
  refine lv_lconst (v := 0) hx hb dX6_clear_11 (by decide) ?_
  refine va_put (D := (dC, dI)) (ci := 6) (v := .long 0) (ty := .long) (C := RX6) (T := TX6) (N := 11) hx hb hts hi6 tyX6 tyX6_ok nmX6 hown hK hP hD hS 0 rfl rfl 2 (by decide) hk2 (fun _ h9 => h9) rfl (by decide +kernel) rfl rfl (Nat.le_of_ble_eq_true rfl) dX6_clear_12 (fun H locs hP hD hS => ?_)
  have hP : va_P (dC, dI) vwCl [(h0, .inr (6, [.long 0, .long 0, .long 0, .long h0_gift, .long h0_others, .long h0_otherSchool, .long h0_otherWage, .long h0_otherGift, .long h0_schoolSchool, .long h0_schoolWage, .long h0_wageWage]))] H := hP
  have hD : va_D A [(h0, .inr (6, [.long 0, .long 0, .long 0, .long h0_gift, .long h0_others, .long h0_otherSchool, .long h0_otherWage, .long h0_otherGift, .long h0_schoolSchool, .long h0_schoolWage, .long h0_wageWage]))] := hD
  refine lv_aload_n hx hb dX6_clear_15 rfl (lv_at hl 0 rfl) ?_
  refine lv_lconst (v := 0) hx hb dX6_clear_16 (by decide) ?_
  refine va_put (D := (dC, dI)) (ci := 6) (v := .long 0) (ty := .long) (C := RX6) (T := TX6) (N := 11) hx hb hts hi6 tyX6 tyX6_ok nmX6 hown hK hP hD hS 0 rfl rfl 3 (by decide) hk3 (fun _ h9 => h9) rfl (by decide +kernel) rfl rfl (Nat.le_of_ble_eq_true rfl) dX6_clear_17 (fun H locs hP hD hS => ?_)
  have hP : va_P (dC, dI) vwCl [(h0, .inr (6, [.long 0, .long 0, .long 0, .long 0, .long h0_others, .long h0_otherSchool, .long h0_otherWage, .long h0_otherGift, .long h0_schoolSchool, .long h0_schoolWage, .long h0_wageWage]))] H := hP
  have hD : va_D A [(h0, .inr (6, [.long 0, .long 0, .long 0, .long 0, .long h0_others, .long h0_otherSchool, .long h0_otherWage, .long h0_otherGift, .long h0_schoolSchool, .long h0_schoolWage, .long h0_wageWage]))] := hD
  refine lv_aload_n hx hb dX6_clear_20 rfl (lv_at hl 0 rfl) ?_
  refine lv_lconst (v := 0) hx hb dX6_clear_21 (by decide) ?_
  refine va_put (D := (dC, dI)) (ci := 6) (v := .long 0) (ty := .long) (C := RX6) (T := TX6) (N := 11) hx hb hts hi6 tyX6 tyX6_ok nmX6 hown hK hP hD hS 0 rfl rfl 4 (by decide) hk4 (fun _ h9 => h9) rfl (by decide +kernel) rfl rfl (Nat.le_of_ble_eq_true rfl) dX6_clear_22 (fun H locs hP hD hS => ?_)
  have hP : va_P (dC, dI) vwCl [(h0, .inr (6, [.long 0, .long 0, .long 0, .long 0, .long 0, .long h0_otherSchool, .long h0_otherWage, .long h0_otherGift, .long h0_schoolSchool, .long h0_schoolWage, .long h0_wageWage]))] H := hP
  have hD : va_D A [(h0, .inr (6, [.long 0, .long 0, .long 0, .long 0, .long 0, .long h0_otherSchool, .long h0_otherWage, .long h0_otherGift, .long h0_schoolSchool, .long h0_schoolWage, .long h0_wageWage]))] := hD
  refine lv_aload_n hx hb dX6_clear_25 rfl (lv_at hl 0 rfl) ?_
  refine lv_lconst (v := 0) hx hb dX6_clear_26 (by decide) ?_
  refine va_put (D := (dC, dI)) (ci := 6) (v := .long 0) (ty := .long) (C := RX6) (T := TX6) (N := 11) hx hb hts hi6 tyX6 tyX6_ok nmX6 hown hK hP hD hS 0 rfl rfl 5 (by decide) hk5 (fun _ h9 => h9) rfl (by decide +kernel) rfl rfl (Nat.le_of_ble_eq_true rfl) dX6_clear_27 (fun H locs hP hD hS => ?_)
  have hP : va_P (dC, dI) vwCl [(h0, .inr (6, [.long 0, .long 0, .long 0, .long 0, .long 0, .long 0, .long h0_otherWage, .long h0_otherGift, .long h0_schoolSchool, .long h0_schoolWage, .long h0_wageWage]))] H := hP
  have hD : va_D A [(h0, .inr (6, [.long 0, .long 0, .long 0, .long 0, .long 0, .long 0, .long h0_otherWage, .long h0_otherGift, .long h0_schoolSchool, .long h0_schoolWage, .long h0_wageWage]))] := hD
  refine lv_aload_n hx hb dX6_clear_30 rfl (lv_at hl 0 rfl) ?_
  refine lv_lconst (v := 0) hx hb dX6_clear_31 (by decide) ?_
  refine va_put (D := (dC, dI)) (ci := 6) (v := .long 0) (ty := .long) (C := RX6) (T := TX6) (N := 11) hx hb hts hi6 tyX6 tyX6_ok nmX6 hown hK hP hD hS 0 rfl rfl 6 (by decide) hk6 (fun _ h9 => h9) rfl (by decide +kernel) rfl rfl (Nat.le_of_ble_eq_true rfl) dX6_clear_32 (fun H locs hP hD hS => ?_)
  have hP : va_P (dC, dI) vwCl [(h0, .inr (6, [.long 0, .long 0, .long 0, .long 0, .long 0, .long 0, .long 0, .long h0_otherGift, .long h0_schoolSchool, .long h0_schoolWage, .long h0_wageWage]))] H := hP
  have hD : va_D A [(h0, .inr (6, [.long 0, .long 0, .long 0, .long 0, .long 0, .long 0, .long 0, .long h0_otherGift, .long h0_schoolSchool, .long h0_schoolWage, .long h0_wageWage]))] := hD
  refine lv_aload_n hx hb dX6_clear_35 rfl (lv_at hl 0 rfl) ?_
  refine lv_lconst (v := 0) hx hb dX6_clear_36 (by decide) ?_
  refine va_put (D := (dC, dI)) (ci := 6) (v := .long 0) (ty := .long) (C := RX6) (T := TX6) (N := 11) hx hb hts hi6 tyX6 tyX6_ok nmX6 hown hK hP hD hS 0 rfl rfl 7 (by decide) hk7 (fun _ h9 => h9) rfl (by decide +kernel) rfl rfl (Nat.le_of_ble_eq_true rfl) dX6_clear_37 (fun H locs hP hD hS => ?_)
  have hP : va_P (dC, dI) vwCl [(h0, .inr (6, [.long 0, .long 0, .long 0, .long 0, .long 0, .long 0, .long 0, .long 0, .long h0_schoolSchool, .long h0_schoolWage, .long h0_wageWage]))] H := hP
  have hD : va_D A [(h0, .inr (6, [.long 0, .long 0, .long 0, .long 0, .long 0, .long 0, .long 0, .long 0, .long h0_schoolSchool, .long h0_schoolWage, .long h0_wageWage]))] := hD
  refine lv_aload_n hx hb dX6_clear_40 rfl (lv_at hl 0 rfl) ?_
  refine lv_lconst (v := 0) hx hb dX6_clear_41 (by decide) ?_
  refine va_put (D := (dC, dI)) (ci := 6) (v := .long 0) (ty := .long) (C := RX6) (T := TX6) (N := 11) hx hb hts hi6 tyX6 tyX6_ok nmX6 hown hK hP hD hS 0 rfl rfl 8 (by decide) hk8 (fun _ h9 => h9) rfl (by decide +kernel) rfl rfl (Nat.le_of_ble_eq_true rfl) dX6_clear_42 (fun H locs hP hD hS => ?_)
  have hP : va_P (dC, dI) vwCl [(h0, .inr (6, [.long 0, .long 0, .long 0, .long 0, .long 0, .long 0, .long 0, .long 0, .long 0, .long h0_schoolWage, .long h0_wageWage]))] H := hP
  have hD : va_D A [(h0, .inr (6, [.long 0, .long 0, .long 0, .long 0, .long 0, .long 0, .long 0, .long 0, .long 0, .long h0_schoolWage, .long h0_wageWage]))] := hD
  refine lv_aload_n hx hb dX6_clear_45 rfl (lv_at hl 0 rfl) ?_
  refine lv_lconst (v := 0) hx hb dX6_clear_46 (by decide) ?_
  refine va_put (D := (dC, dI)) (ci := 6) (v := .long 0) (ty := .long) (C := RX6) (T := TX6) (N := 11) hx hb hts hi6 tyX6 tyX6_ok nmX6 hown hK hP hD hS 0 rfl rfl 9 (by decide) hk9 (fun _ h9 => h9) rfl (by decide +kernel) rfl rfl (Nat.le_of_ble_eq_true rfl) dX6_clear_47 (fun H locs hP hD hS => ?_)
  have hP : va_P (dC, dI) vwCl [(h0, .inr (6, [.long 0, .long 0, .long 0, .long 0, .long 0, .long 0, .long 0, .long 0, .long 0, .long 0, .long h0_wageWage]))] H := hP
  have hD : va_D A [(h0, .inr (6, [.long 0, .long 0, .long 0, .long 0, .long 0, .long 0, .long 0, .long 0, .long 0, .long 0, .long h0_wageWage]))] := hD
  refine lv_aload_n hx hb dX6_clear_50 rfl (lv_at hl 0 rfl) ?_
  refine lv_lconst (v := 0) hx hb dX6_clear_51 (by decide) ?_
  refine va_put (D := (dC, dI)) (ci := 6) (v := .long 0) (ty := .long) (C := RX6) (T := TX6) (N := 11) hx hb hts hi6 tyX6 tyX6_ok nmX6 hown hK hP hD hS 0 rfl rfl 10 (by decide) hk10 (fun _ h9 => h9) rfl (by decide +kernel) rfl rfl (Nat.le_of_ble_eq_true rfl) dX6_clear_52 (fun H locs hP hD hS => ?_)
  have hP : va_P (dC, dI) vwCl [(h0, .inr (6, [.long 0, .long 0, .long 0, .long 0, .long 0, .long 0, .long 0, .long 0, .long 0, .long 0, .long 0]))] H := hP
  have hD : va_D A [(h0, .inr (6, [.long 0, .long 0, .long 0, .long 0, .long 0, .long 0, .long 0, .long 0, .long 0, .long 0, .long 0]))] := hD
  exact y_vret ((0, 0, 0, 0, 0, 0, 0, 0, 0, 0, 0) : Int64 × Int64 × Int64 × Int64 × Int64 × Int64 × Int64 × Int64 × Int64 × Int64 × Int64) hx hb hr hlocks hK hP hD hS hAe hQ rfl ⟨(show 0 ≤ (0 : Int) from by omega), (show 0 ≤ (0 : Int) from by omega), (show (0 : Int) ≤ 200 from by omega), (show (0 : Int) ≤ 200 from by omega), (show (0 : Int) + (0 : Int) ≤ 200 from by omega), (show 0 ≤ (0 : Int) from by omega), (show (0 : Int) ≤ 300 * (0 : Int) from by omega), (show 0 ≤ (0 : Int) from by omega), (show (0 : Int) ≤ 300 * (0 : Int) from by omega), (show 0 ≤ (0 : Int) from by omega), (show (0 : Int) ≤ 90000 * ((0 : Int) + (0 : Int)) from by omega), (show (0 : Int) = 0 from by omega), (show (0 : Int) = 0 from by omega)⟩ dX6_clear_55
set_option maxHeartbeats 8000000 in
set_option maxRecDepth 100000 in
theorem k_X6_hasSpan (l : Launch) (dC : Nat → ClassId) (dI : Nat → Nat → Nat) (cB cI cJ cZ cP cQ : ClassId) (h0 : Nat) (sz : Nat) (h0_n : Int64) (h0_school : Int64) (h0_wage : Int64) (h0_gift : Int64) (h0_others : Int64) (h0_otherSchool : Int64) (h0_otherWage : Int64) (h0_otherGift : Int64) (h0_schoolSchool : Int64) (h0_schoolWage : Int64) (h0_wageWage : Int64) (e0 : 0 ≤ h0_n.toInt) (e1 : 0 ≤ h0_others.toInt) (e2 : h0_n.toInt ≤ 200) (e3 : h0_others.toInt ≤ 200) (e4 : h0_n.toInt + h0_others.toInt ≤ 200) (e5 : 0 ≤ h0_school.toInt) (e6 : h0_school.toInt ≤ 300 * h0_n.toInt) (e7 : 0 ≤ h0_otherSchool.toInt) (e8 : h0_otherSchool.toInt ≤ 300 * h0_others.toInt) (e9 : 0 ≤ h0_schoolSchool.toInt) (e10 : h0_schoolSchool.toInt ≤ 90000 * (h0_n.toInt + h0_others.toInt)) : Met l yX6_hasSpan wsX6_hasSpan ({ frames := 1, cells := 0, slots := 0, locals := 20 } : Room) (zPc [.ref h0] (dC, dI) (zT cB cI cJ cZ cP cQ) [(h0, .inr (6, [.long h0_n, .long h0_school, .long h0_wage, .long h0_gift, .long h0_others, .long h0_otherSchool, .long h0_otherWage, .long h0_otherGift, .long h0_schoolSchool, .long h0_schoolWage, .long h0_wageWage]))] sz [] []) (va_Qi (fun (r : Int32) (u : Unit) => (r = 0 ∧ (((h0_n.toInt ≤ 0 ∨ (0 < h0_n.toInt ∧ h0_others.toInt ≤ 0))) ∨ ((0 < h0_n.toInt ∧ 0 < h0_others.toInt)))) ∨ (r = 1 ∧ (0 < h0_n.toInt ∧ 0 < h0_others.toInt))) (zB (dC, dI) (zT cB cI cJ cZ cP cQ) (fun u : Unit => [(h0, .inr (6, [.long h0_n, .long h0_school, .long h0_wage, .long h0_gift, .long h0_others, .long h0_otherSchool, .long h0_otherWage, .long h0_otherGift, .long h0_schoolSchool, .long h0_schoolWage, .long h0_wageWage]))]) [(h0, .inr (6, [.long h0_n, .long h0_school, .long h0_wage, .long h0_gift, .long h0_others, .long h0_otherSchool, .long h0_otherWage, .long h0_otherGift, .long h0_schoolSchool, .long h0_schoolWage, .long h0_wageWage]))] sz) (va_A [(h0, .inr (6, [.long h0_n, .long h0_school, .long h0_wage, .long h0_gift, .long h0_others, .long h0_otherSchool, .long h0_otherWage, .long h0_otherGift, .long h0_schoolSchool, .long h0_schoolWage, .long h0_wageWage]))] sz)) 0 0 (va_A [(h0, .inr (6, [.long h0_n, .long h0_school, .long h0_wage, .long h0_gift, .long h0_others, .long h0_otherSchool, .long h0_otherWage, .long h0_otherGift, .long h0_schoolSchool, .long h0_schoolWage, .long h0_wageWage]))] sz) := by
  refine z_enter (cc := cX6_hasSpan) (maxL := 1) (ret := (some .boolean)) (by decide) rfl (Nat.le_of_ble_eq_true rfl) ?_
  intro p e s m below meth c A ls Q H locs hx hb hr hml hown hts hlocks hin hK hP hD hA hX hS hAe hQ hl
  have hown : s.vm.findClass RX6 = some m.cls := hown
  have hi6 : ∀ w ∈ wsX60, w ∈ wsX6_hasSpan := fun w h => List.mem_cons_of_mem _ (List.mem_append_right _ h)
  have hk0 := hts (.fieldLink RX6 9 "MonthPush$Split" "n" "J") (List.mem_of_getElem? (i := 1) rfl)
  have hk1 := hts (.fieldLink RX6 24 "MonthPush$Split" "others" "J") (List.mem_of_getElem? (i := 2) rfl)
  have hk2 := hts (.constantLong RX6 58 3) (List.mem_of_getElem? (i := 3) rfl)
  have hl : lv_has ls 1 [(0, .ref h0)] := hl
  refine lv_aload_n hx hb dX6_hasSpan_0 rfl (lv_at hl 0 rfl) ?_
  refine y_fini (w' := fun (u1 : Unit) => [(h0, .inr (6, [.long h0_n, .long h0_school, .long h0_wage, .long h0_gift, .long h0_others, .long h0_otherSchool, .long h0_otherWage, .long h0_otherGift, .long h0_schoolSchool, .long h0_schoolWage, .long h0_wageWage]))]) (va_runV (As := []) (rest := []) ⟨hx, hb, hml, hown, hts⟩ (k_X6_hasBoth l dC dI cB cI cJ cZ cP cQ h0 H.size h0_n h0_school h0_wage h0_gift h0_others h0_otherSchool h0_otherWage h0_otherGift h0_schoolSchool h0_schoolWage h0_wageWage (show 0 ≤ h0_n.toInt from by omega) (show 0 ≤ h0_others.toInt from by omega) (show h0_n.toInt ≤ 200 from by omega) (show h0_others.toInt ≤ 200 from by omega) (show h0_n.toInt + h0_others.toInt ≤ 200 from by omega) (show 0 ≤ h0_school.toInt from by omega) (show h0_school.toInt ≤ 300 * h0_n.toInt from by omega) (show 0 ≤ h0_otherSchool.toInt from by omega) (show h0_otherSchool.toInt ≤ 300 * h0_others.toInt from by omega) (show 0 ≤ h0_schoolSchool.toInt from by omega) (show h0_schoolSchool.toInt ≤ 90000 * (h0_n.toInt + h0_others.toInt) from by omega)) (cwV 0 hts gX6_hasSpan_X6_hasBoth rfl rfl rfl ⟨rfl, hd_X6_hasBoth⟩ ⟨Nat.le_of_ble_eq_true rfl, Nat.le_of_ble_eq_true rfl⟩) (z_pV (ci := 6) hK hP hD zX_nil [0] (by decide) rfl rfl 0 rfl) rfl rfl hl.1 rfl (lv_room (Nat.le_of_ble_eq_true rfl)) dX6_hasSpan_1 ⟨Nat.le_of_ble_eq_true rfl, Nat.le_of_ble_eq_true rfl⟩) hP hD hS hA [0] [] [0] rfl rfl (by decide) (by decide) (fun _ => rfl) (by decide) (fun r2 u1 H locs hp3 hP hD hS => ?_)
  have hP : va_P (dC, dI) vwCl [(h0, .inr (6, [.long h0_n, .long h0_school, .long h0_wage, .long h0_gift, .long h0_others, .long h0_otherSchool, .long h0_otherWage, .long h0_otherGift, .long h0_schoolSchool, .long h0_schoolWage, .long h0_wageWage]))] H := hP
  have hD : va_D A [(h0, .inr (6, [.long h0_n, .long h0_school, .long h0_wage, .long h0_gift, .long h0_others, .long h0_otherSchool, .long h0_otherWage, .long h0_otherGift, .long h0_schoolSchool, .long h0_schoolWage, .long h0_wageWage]))] := hD
  have hp3 : (r2 = 0 ∧ (h0_n.toInt ≤ 0 ∨ (0 < h0_n.toInt ∧ h0_others.toInt ≤ 0))) ∨ (r2 = 1 ∧ 0 < h0_n.toInt ∧ 0 < h0_others.toInt) := hp3
  rcases hp3 with f4 | f5
  · obtain ⟨rfl, f4⟩ := f4
    refine lv_if_eq (tgt := 27) hx hb dX6_hasSpan_4 (by decide) (fun _ => ?_) (fun c => absurd (by decide) c)
    refine lv_iconst (v := 0) hx hb dX6_hasSpan_27 (by decide) ?_
    exact y_zret () hx hb hr hlocks hK hP hD hS hAe hQ rfl (Or.inl ⟨rfl, (Or.inl f4)⟩) (by decide) dX6_hasSpan_28
  · obtain ⟨rfl, f5⟩ := f5
    refine lv_if_eq (tgt := 27) hx hb dX6_hasSpan_4 (by decide) (fun c => absurd c (by decide)) (fun _ => ?_)
    refine lv_aload_n hx hb dX6_hasSpan_7 rfl (lv_at hl 0 rfl) ?_
    refine va_get (D := (dC, dI)) (ci := 6) (v := .long h0_n) (C := RX6) (T := TX6) (N := 11) hx hb hts hi6 hown hK hP 0 rfl rfl 0 (by decide) hk0 (fun _ h9 => h9) rfl dX6_hasSpan_8 ?_
    refine lv_aload_n hx hb dX6_hasSpan_11 rfl (lv_at hl 0 rfl) ?_
    refine va_get (D := (dC, dI)) (ci := 6) (v := .long h0_others) (C := RX6) (T := TX6) (N := 11) hx hb hts hi6 hown hK hP 0 rfl rfl 4 (by decide) hk1 (fun _ h9 => h9) rfl dX6_hasSpan_12 ?_
    refine lv_ladd hx hb dX6_hasSpan_15 ?_
    refine lv_topl (fun r6 _ => ?_)
    refine lv_ldc2 hx hb hown hk2 dX6_hasSpan_16 ?_
    refine W.lcmp hx hb dX6_hasSpan_19 ?_
    refine lv_if_lt (tgt := 27) hx hb dX6_hasSpan_20 (by decide) (fun c_7 => ?_) (fun c_7 => ?_)
    · have f8 : r6.toInt < 3 := z_llt rfl (show Int64.toInt 3 = 3 from by decide) c_7
      refine lv_iconst (v := 0) hx hb dX6_hasSpan_27 (by decide) ?_
      exact y_zret () hx hb hr hlocks hK hP hD hS hAe hQ rfl (Or.inl ⟨rfl, (Or.inr f5)⟩) (by decide) dX6_hasSpan_28
    · have f8 : 3 ≤ r6.toInt := z_lnlt rfl (show Int64.toInt 3 = 3 from by decide) c_7
      refine lv_iconst (v := 1) hx hb dX6_hasSpan_23 (by decide) ?_
      refine lv_goto (tgt := 28) hx hb dX6_hasSpan_24 (by decide) ?_
      exact y_zret () hx hb hr hlocks hK hP hD hS hAe hQ rfl (Or.inr ⟨rfl, f5⟩) (by decide) dX6_hasSpan_28
set_option maxHeartbeats 8000000 in
set_option maxRecDepth 100000 in
theorem k_X6_hasUsualSpan (l : Launch) (dC : Nat → ClassId) (dI : Nat → Nat → Nat) (cB cI cJ cZ cP cQ : ClassId) (h0 : Nat) (sz : Nat) (h0_n : Int64) (h0_school : Int64) (h0_wage : Int64) (h0_gift : Int64) (h0_others : Int64) (h0_otherSchool : Int64) (h0_otherWage : Int64) (h0_otherGift : Int64) (h0_schoolSchool : Int64) (h0_schoolWage : Int64) (h0_wageWage : Int64) (e0 : 0 ≤ h0_n.toInt) (e1 : 0 ≤ h0_others.toInt) (e2 : h0_n.toInt ≤ 200) (e3 : h0_others.toInt ≤ 200) (e4 : h0_n.toInt + h0_others.toInt ≤ 200) (e5 : 0 ≤ h0_school.toInt) (e6 : h0_school.toInt ≤ 300 * h0_n.toInt) (e7 : 0 ≤ h0_otherSchool.toInt) (e8 : h0_otherSchool.toInt ≤ 300 * h0_others.toInt) (e9 : 0 ≤ h0_schoolSchool.toInt) (e10 : h0_schoolSchool.toInt ≤ 90000 * (h0_n.toInt + h0_others.toInt)) : Met l yX6_hasUsualSpan wsX6_hasUsualSpan ({ frames := 3, cells := 0, slots := 0, locals := 68 } : Room) (zPc [.ref h0] (dC, dI) (zT cB cI cJ cZ cP cQ) [(h0, .inr (6, [.long h0_n, .long h0_school, .long h0_wage, .long h0_gift, .long h0_others, .long h0_otherSchool, .long h0_otherWage, .long h0_otherGift, .long h0_schoolSchool, .long h0_schoolWage, .long h0_wageWage]))] sz [] []) (va_Qi (fun (r : Int32) (u : Unit) => (r = 0) ∨ (r = 1 ∧ ((0 < h0_n.toInt ∧ 0 < h0_others.toInt)))) (zB (dC, dI) (zT cB cI cJ cZ cP cQ) (fun u : Unit => [(h0, .inr (6, [.long h0_n, .long h0_school, .long h0_wage, .long h0_gift, .long h0_others, .long h0_otherSchool, .long h0_otherWage, .long h0_otherGift, .long h0_schoolSchool, .long h0_schoolWage, .long h0_wageWage]))]) [(h0, .inr (6, [.long h0_n, .long h0_school, .long h0_wage, .long h0_gift, .long h0_others, .long h0_otherSchool, .long h0_otherWage, .long h0_otherGift, .long h0_schoolSchool, .long h0_schoolWage, .long h0_wageWage]))] sz) (va_A [(h0, .inr (6, [.long h0_n, .long h0_school, .long h0_wage, .long h0_gift, .long h0_others, .long h0_otherSchool, .long h0_otherWage, .long h0_otherGift, .long h0_schoolSchool, .long h0_schoolWage, .long h0_wageWage]))] sz)) 0 0 (va_A [(h0, .inr (6, [.long h0_n, .long h0_school, .long h0_wage, .long h0_gift, .long h0_others, .long h0_otherSchool, .long h0_otherWage, .long h0_otherGift, .long h0_schoolSchool, .long h0_schoolWage, .long h0_wageWage]))] sz) := by
  refine z_enter (cc := cX6_hasUsualSpan) (maxL := 3) (ret := (some .boolean)) (by decide) rfl (Nat.le_of_ble_eq_true rfl) ?_
  intro p e s m below meth c A ls Q H locs hx hb hr hml hown hts hlocks hin hK hP hD hA hX hS hAe hQ hl
  have hown : s.vm.findClass RX6 = some m.cls := hown
  have hk0 := hts (.constantLong RX6 64 (-9000000000000000000)) (List.mem_of_getElem? (i := 1) rfl)
  have hk1 := hts (.constantLong RX6 69 1000) (List.mem_of_getElem? (i := 2) rfl)
  have hk2 := hts (.constantLong RX6 71 (-99)) (List.mem_of_getElem? (i := 3) rfl)
  have hk3 := hts (.constantLong RX6 73 99) (List.mem_of_getElem? (i := 4) rfl)
  have hl : lv_has ls 3 [(0, .ref h0)] := hl
  refine lv_aload_n hx hb dX6_hasUsualSpan_0 rfl (lv_at hl 0 rfl) ?_
  refine y_finl (w' := fun (u1 : Unit) => [(h0, .inr (6, [.long h0_n, .long h0_school, .long h0_wage, .long h0_gift, .long h0_others, .long h0_otherSchool, .long h0_otherWage, .long h0_otherGift, .long h0_schoolSchool, .long h0_schoolWage, .long h0_wageWage]))]) (va_runV (As := []) (rest := []) ⟨hx, hb, hml, hown, hts⟩ (k_X6_byMoved l dC dI cB cI cJ cZ cP cQ h0 H.size h0_n h0_school h0_wage h0_gift h0_others h0_otherSchool h0_otherWage h0_otherGift h0_schoolSchool h0_schoolWage h0_wageWage (show 0 ≤ h0_n.toInt from by omega) (show 0 ≤ h0_others.toInt from by omega) (show h0_n.toInt ≤ 200 from by omega) (show h0_others.toInt ≤ 200 from by omega) (show h0_n.toInt + h0_others.toInt ≤ 200 from by omega) (show 0 ≤ h0_school.toInt from by omega) (show h0_school.toInt ≤ 300 * h0_n.toInt from by omega) (show 0 ≤ h0_otherSchool.toInt from by omega) (show h0_otherSchool.toInt ≤ 300 * h0_others.toInt from by omega) (show 0 ≤ h0_schoolSchool.toInt from by omega) (show h0_schoolSchool.toInt ≤ 90000 * (h0_n.toInt + h0_others.toInt) from by omega)) (cwV 0 hts gX6_hasUsualSpan_X6_byMoved rfl rfl rfl ⟨rfl, hd_X6_byMoved⟩ ⟨Nat.le_of_ble_eq_true rfl, Nat.le_of_ble_eq_true rfl⟩) (z_pV (ci := 6) hK hP hD zX_nil [0] (by decide) rfl rfl 0 rfl) rfl rfl hl.1 rfl (lv_room (Nat.le_of_ble_eq_true rfl)) dX6_hasUsualSpan_1 ⟨Nat.le_of_ble_eq_true rfl, Nat.le_of_ble_eq_true rfl⟩) hP hD hS hA [0] [] [0] rfl rfl (by decide) (by decide) (fun _ => rfl) (by decide) (fun r2 u1 H locs hp3 hP hD hS => ?_)
  have hP : va_P (dC, dI) vwCl [(h0, .inr (6, [.long h0_n, .long h0_school, .long h0_wage, .long h0_gift, .long h0_others, .long h0_otherSchool, .long h0_otherWage, .long h0_otherGift, .long h0_schoolSchool, .long h0_schoolWage, .long h0_wageWage]))] H := hP
  have hD : va_D A [(h0, .inr (6, [.long h0_n, .long h0_school, .long h0_wage, .long h0_gift, .long h0_others, .long h0_otherSchool, .long h0_otherWage, .long h0_otherGift, .long h0_schoolSchool, .long h0_schoolWage, .long h0_wageWage]))] := hD
  have hp3 : (r2 = (-9000000000000000000) ∧ ((((h0_n.toInt ≤ 0 ∨ (0 < h0_n.toInt ∧ h0_others.toInt ≤ 0))) ∨ ((0 < h0_n.toInt ∧ 0 < h0_others.toInt))))) ∨ (True) := hp3
  rcases hp3 with f4 | f5
  · obtain ⟨rfl, f4⟩ := f4
    refine lv_lstore_n (lv' := [(1, .long (-9000000000000000000)), (0, .ref h0)]) hx hb dX6_hasUsualSpan_4 rfl hl (by decide) rfl (fun ls hl => ?_)
    refine lv_lload_n hx hb dX6_hasUsualSpan_5 rfl (lv_at hl 0 rfl) ?_
    refine lv_ldc2 hx hb hown hk0 dX6_hasUsualSpan_6 ?_
    refine W.lcmp hx hb dX6_hasUsualSpan_9 ?_
    refine lv_if_eq (tgt := 20) hx hb dX6_hasUsualSpan_10 (by decide) (fun c_6 => ?_) (fun c_6 => ?_)
    · have f7 : (-9000000000000000000) = (-9000000000000000000) := z_leq (show Int64.toInt (-9000000000000000000) = (-9000000000000000000) from by decide) (show Int64.toInt (-9000000000000000000) = (-9000000000000000000) from by decide) c_6
      refine lv_iconst (v := 0) hx hb dX6_hasUsualSpan_20 (by decide) ?_
      exact y_zret () hx hb hr hlocks hK hP hD hS hAe hQ rfl (Or.inl rfl) (by decide) dX6_hasUsualSpan_21
    · have f7 : ¬ (-9000000000000000000) = (-9000000000000000000) := z_lneq (show Int64.toInt (-9000000000000000000) = (-9000000000000000000) from by decide) (show Int64.toInt (-9000000000000000000) = (-9000000000000000000) from by decide) c_6
      refine lv_aload_n hx hb dX6_hasUsualSpan_13 rfl (lv_at hl 1 rfl) ?_
      refine y_fini (w' := fun (u8 : Unit) => [(h0, .inr (6, [.long h0_n, .long h0_school, .long h0_wage, .long h0_gift, .long h0_others, .long h0_otherSchool, .long h0_otherWage, .long h0_otherGift, .long h0_schoolSchool, .long h0_schoolWage, .long h0_wageWage]))]) (va_runV (As := []) (rest := []) ⟨hx, hb, hml, hown, hts⟩ (k_X6_hasSpan l dC dI cB cI cJ cZ cP cQ h0 H.size h0_n h0_school h0_wage h0_gift h0_others h0_otherSchool h0_otherWage h0_otherGift h0_schoolSchool h0_schoolWage h0_wageWage (show 0 ≤ h0_n.toInt from by omega) (show 0 ≤ h0_others.toInt from by omega) (show h0_n.toInt ≤ 200 from by omega) (show h0_others.toInt ≤ 200 from by omega) (show h0_n.toInt + h0_others.toInt ≤ 200 from by omega) (show 0 ≤ h0_school.toInt from by omega) (show h0_school.toInt ≤ 300 * h0_n.toInt from by omega) (show 0 ≤ h0_otherSchool.toInt from by omega) (show h0_otherSchool.toInt ≤ 300 * h0_others.toInt from by omega) (show 0 ≤ h0_schoolSchool.toInt from by omega) (show h0_schoolSchool.toInt ≤ 90000 * (h0_n.toInt + h0_others.toInt) from by omega)) (cwV 0 hts gX6_hasUsualSpan_X6_hasSpan rfl rfl rfl ⟨rfl, hd_X6_hasSpan⟩ ⟨Nat.le_of_ble_eq_true rfl, Nat.le_of_ble_eq_true rfl⟩) (z_pV (ci := 6) hK hP hD zX_nil [0] (by decide) rfl rfl 0 rfl) rfl rfl hl.1 rfl (lv_room (Nat.le_of_ble_eq_true rfl)) dX6_hasUsualSpan_14 ⟨Nat.le_of_ble_eq_true rfl, Nat.le_of_ble_eq_true rfl⟩) hP hD hS hA [0] [] [0] rfl rfl (by decide) (by decide) (fun _ => rfl) (by decide) (fun r9 u8 H locs hp10 hP hD hS => ?_)
      have hP : va_P (dC, dI) vwCl [(h0, .inr (6, [.long h0_n, .long h0_school, .long h0_wage, .long h0_gift, .long h0_others, .long h0_otherSchool, .long h0_otherWage, .long h0_otherGift, .long h0_schoolSchool, .long h0_schoolWage, .long h0_wageWage]))] H := hP
      have hD : va_D A [(h0, .inr (6, [.long h0_n, .long h0_school, .long h0_wage, .long h0_gift, .long h0_others, .long h0_otherSchool, .long h0_otherWage, .long h0_otherGift, .long h0_schoolSchool, .long h0_schoolWage, .long h0_wageWage]))] := hD
      have hp10 : (r9 = 0 ∧ (((h0_n.toInt ≤ 0 ∨ (0 < h0_n.toInt ∧ h0_others.toInt ≤ 0))) ∨ ((0 < h0_n.toInt ∧ 0 < h0_others.toInt)))) ∨ (r9 = 1 ∧ (0 < h0_n.toInt ∧ 0 < h0_others.toInt)) := hp10
      rcases hp10 with f11 | f12
      · obtain ⟨rfl, f11⟩ := f11
        refine lv_if_ne (tgt := 22) hx hb dX6_hasUsualSpan_17 (by decide) (fun c => absurd (by decide) c) (fun _ => ?_)
        refine lv_iconst (v := 0) hx hb dX6_hasUsualSpan_20 (by decide) ?_
        exact y_zret () hx hb hr hlocks hK hP hD hS hAe hQ rfl (Or.inl rfl) (by decide) dX6_hasUsualSpan_21
      · obtain ⟨rfl, f12⟩ := f12
        refine lv_if_ne (tgt := 22) hx hb dX6_hasUsualSpan_17 (by decide) (fun _ => ?_) (fun c => absurd c (by decide))
        refine lv_lload_n hx hb dX6_hasUsualSpan_22 rfl (lv_at hl 0 rfl) ?_
        refine lv_ldc2 hx hb hown hk1 dX6_hasUsualSpan_23 ?_
        refine lv_ldiv hx hb dX6_hasUsualSpan_26 (by decide) ?_
        refine z_topl (y := (-9000000000000000)) (by decide +kernel) ?_
        refine lv_ldc2 hx hb hown hk2 dX6_hasUsualSpan_27 ?_
        refine W.lcmp hx hb dX6_hasUsualSpan_30 ?_
        refine lv_if_lt (tgt := 50) hx hb dX6_hasUsualSpan_31 (by decide) (fun _ => ?_) (fun c => absurd (show (-99) ≤ (-9000000000000000) from z_lnlt (show Int64.toInt (-9000000000000000) = (-9000000000000000) from by decide) (show Int64.toInt (-99) = (-99) from by decide) c) (by omega))
        refine lv_iconst (v := 0) hx hb dX6_hasUsualSpan_50 (by decide) ?_
        exact y_zret () hx hb hr hlocks hK hP hD hS hAe hQ rfl (Or.inl rfl) (by decide) dX6_hasUsualSpan_51
  · refine lv_lstore_n (lv' := [(1, .long r2), (0, .ref h0)]) hx hb dX6_hasUsualSpan_4 rfl hl (by decide) rfl (fun ls hl => ?_)
    refine lv_lload_n hx hb dX6_hasUsualSpan_5 rfl (lv_at hl 0 rfl) ?_
    refine lv_ldc2 hx hb hown hk0 dX6_hasUsualSpan_6 ?_
    refine W.lcmp hx hb dX6_hasUsualSpan_9 ?_
    refine lv_if_eq (tgt := 20) hx hb dX6_hasUsualSpan_10 (by decide) (fun c_13 => ?_) (fun c_13 => ?_)
    · have f14 : r2.toInt = (-9000000000000000000) := z_leq rfl (show Int64.toInt (-9000000000000000000) = (-9000000000000000000) from by decide) c_13
      refine lv_iconst (v := 0) hx hb dX6_hasUsualSpan_20 (by decide) ?_
      exact y_zret () hx hb hr hlocks hK hP hD hS hAe hQ rfl (Or.inl rfl) (by decide) dX6_hasUsualSpan_21
    · have f14 : ¬ r2.toInt = (-9000000000000000000) := z_lneq rfl (show Int64.toInt (-9000000000000000000) = (-9000000000000000000) from by decide) c_13
      refine lv_aload_n hx hb dX6_hasUsualSpan_13 rfl (lv_at hl 1 rfl) ?_
      refine y_fini (w' := fun (u15 : Unit) => [(h0, .inr (6, [.long h0_n, .long h0_school, .long h0_wage, .long h0_gift, .long h0_others, .long h0_otherSchool, .long h0_otherWage, .long h0_otherGift, .long h0_schoolSchool, .long h0_schoolWage, .long h0_wageWage]))]) (va_runV (As := []) (rest := []) ⟨hx, hb, hml, hown, hts⟩ (k_X6_hasSpan l dC dI cB cI cJ cZ cP cQ h0 H.size h0_n h0_school h0_wage h0_gift h0_others h0_otherSchool h0_otherWage h0_otherGift h0_schoolSchool h0_schoolWage h0_wageWage (show 0 ≤ h0_n.toInt from by omega) (show 0 ≤ h0_others.toInt from by omega) (show h0_n.toInt ≤ 200 from by omega) (show h0_others.toInt ≤ 200 from by omega) (show h0_n.toInt + h0_others.toInt ≤ 200 from by omega) (show 0 ≤ h0_school.toInt from by omega) (show h0_school.toInt ≤ 300 * h0_n.toInt from by omega) (show 0 ≤ h0_otherSchool.toInt from by omega) (show h0_otherSchool.toInt ≤ 300 * h0_others.toInt from by omega) (show 0 ≤ h0_schoolSchool.toInt from by omega) (show h0_schoolSchool.toInt ≤ 90000 * (h0_n.toInt + h0_others.toInt) from by omega)) (cwV 0 hts gX6_hasUsualSpan_X6_hasSpan rfl rfl rfl ⟨rfl, hd_X6_hasSpan⟩ ⟨Nat.le_of_ble_eq_true rfl, Nat.le_of_ble_eq_true rfl⟩) (z_pV (ci := 6) hK hP hD zX_nil [0] (by decide) rfl rfl 0 rfl) rfl rfl hl.1 rfl (lv_room (Nat.le_of_ble_eq_true rfl)) dX6_hasUsualSpan_14 ⟨Nat.le_of_ble_eq_true rfl, Nat.le_of_ble_eq_true rfl⟩) hP hD hS hA [0] [] [0] rfl rfl (by decide) (by decide) (fun _ => rfl) (by decide) (fun r16 u15 H locs hp17 hP hD hS => ?_)
      have hP : va_P (dC, dI) vwCl [(h0, .inr (6, [.long h0_n, .long h0_school, .long h0_wage, .long h0_gift, .long h0_others, .long h0_otherSchool, .long h0_otherWage, .long h0_otherGift, .long h0_schoolSchool, .long h0_schoolWage, .long h0_wageWage]))] H := hP
      have hD : va_D A [(h0, .inr (6, [.long h0_n, .long h0_school, .long h0_wage, .long h0_gift, .long h0_others, .long h0_otherSchool, .long h0_otherWage, .long h0_otherGift, .long h0_schoolSchool, .long h0_schoolWage, .long h0_wageWage]))] := hD
      have hp17 : (r16 = 0 ∧ (((h0_n.toInt ≤ 0 ∨ (0 < h0_n.toInt ∧ h0_others.toInt ≤ 0))) ∨ ((0 < h0_n.toInt ∧ 0 < h0_others.toInt)))) ∨ (r16 = 1 ∧ (0 < h0_n.toInt ∧ 0 < h0_others.toInt)) := hp17
      rcases hp17 with f18 | f19
      · obtain ⟨rfl, f18⟩ := f18
        refine lv_if_ne (tgt := 22) hx hb dX6_hasUsualSpan_17 (by decide) (fun c => absurd (by decide) c) (fun _ => ?_)
        refine lv_iconst (v := 0) hx hb dX6_hasUsualSpan_20 (by decide) ?_
        exact y_zret () hx hb hr hlocks hK hP hD hS hAe hQ rfl (Or.inl rfl) (by decide) dX6_hasUsualSpan_21
      · obtain ⟨rfl, f19⟩ := f19
        refine lv_if_ne (tgt := 22) hx hb dX6_hasUsualSpan_17 (by decide) (fun _ => ?_) (fun c => absurd c (by decide))
        refine lv_lload_n hx hb dX6_hasUsualSpan_22 rfl (lv_at hl 0 rfl) ?_
        refine lv_ldc2 hx hb hown hk1 dX6_hasUsualSpan_23 ?_
        refine lv_ldiv hx hb dX6_hasUsualSpan_26 (by decide) ?_
        refine lv_topl (fun r20 h21 => ?_)
        refine lv_ldc2 hx hb hown hk2 dX6_hasUsualSpan_27 ?_
        refine W.lcmp hx hb dX6_hasUsualSpan_30 ?_
        refine lv_if_lt (tgt := 50) hx hb dX6_hasUsualSpan_31 (by decide) (fun c_22 => ?_) (fun c_22 => ?_)
        · have f23 : r20.toInt < (-99) := z_llt rfl (show Int64.toInt (-99) = (-99) from by decide) c_22
          refine lv_iconst (v := 0) hx hb dX6_hasUsualSpan_50 (by decide) ?_
          exact y_zret () hx hb hr hlocks hK hP hD hS hAe hQ rfl (Or.inl rfl) (by decide) dX6_hasUsualSpan_51
        · have f23 : (-99) ≤ r20.toInt := z_lnlt rfl (show Int64.toInt (-99) = (-99) from by decide) c_22
          refine lv_lload_n hx hb dX6_hasUsualSpan_34 rfl (lv_at hl 0 rfl) ?_
          refine lv_ldc2 hx hb hown hk1 dX6_hasUsualSpan_35 ?_
          refine lv_ldiv hx hb dX6_hasUsualSpan_38 (by decide) ?_
          refine z_topl (y := r20) h21.symm ?_
          refine lv_ldc2 hx hb hown hk3 dX6_hasUsualSpan_39 ?_
          refine W.lcmp hx hb dX6_hasUsualSpan_42 ?_
          refine lv_if_gt (tgt := 50) hx hb dX6_hasUsualSpan_43 (by decide) (fun c_24 => ?_) (fun c_24 => ?_)
          · have f25 : 99 < r20.toInt := z_lgt rfl (show Int64.toInt 99 = 99 from by decide) c_24
            refine lv_iconst (v := 0) hx hb dX6_hasUsualSpan_50 (by decide) ?_
            exact y_zret () hx hb hr hlocks hK hP hD hS hAe hQ rfl (Or.inl rfl) (by decide) dX6_hasUsualSpan_51
          · have f25 : r20.toInt ≤ 99 := z_lngt rfl (show Int64.toInt 99 = 99 from by decide) c_24
            refine lv_iconst (v := 1) hx hb dX6_hasUsualSpan_46 (by decide) ?_
            refine lv_goto (tgt := 51) hx hb dX6_hasUsualSpan_47 (by decide) ?_
            exact y_zret () hx hb hr hlocks hK hP hD hS hAe hQ rfl (Or.inr ⟨rfl, f19⟩) (by decide) dX6_hasUsualSpan_51
set_option maxHeartbeats 8000000 in
set_option maxRecDepth 100000 in
theorem k_X6_withinOf (l : Launch) (dC : Nat → ClassId) (dI : Nat → Nat → Nat) (cB cI cJ cZ cP cQ : ClassId) (h0 : Nat) (sz : Nat) (p1 : Int64) (p2 : Int64) (p3 : Int64) (h0_n : Int64) (h0_school : Int64) (h0_wage : Int64) (h0_gift : Int64) (h0_others : Int64) (h0_otherSchool : Int64) (h0_otherWage : Int64) (h0_otherGift : Int64) (h0_schoolSchool : Int64) (h0_schoolWage : Int64) (h0_wageWage : Int64) (e0 : 0 ≤ h0_n.toInt) (e1 : 0 ≤ h0_others.toInt) (e2 : h0_n.toInt ≤ 200) (e3 : h0_others.toInt ≤ 200) (e4 : h0_n.toInt + h0_others.toInt ≤ 200) (e5 : 0 ≤ h0_school.toInt) (e6 : h0_school.toInt ≤ 300 * h0_n.toInt) (e7 : 0 ≤ h0_otherSchool.toInt) (e8 : h0_otherSchool.toInt ≤ 300 * h0_others.toInt) (e9 : 0 ≤ h0_schoolSchool.toInt) (e10 : h0_schoolSchool.toInt ≤ 90000 * (h0_n.toInt + h0_others.toInt)) : Met l yX6_withinOf wsX6_withinOf ({ frames := 0, cells := 0, slots := 0, locals := 0 } : Room) (zPc [.ref h0, .long p1, .long p2, .long p3] (dC, dI) (zT cB cI cJ cZ cP cQ) [(h0, .inr (6, [.long h0_n, .long h0_school, .long h0_wage, .long h0_gift, .long h0_others, .long h0_otherSchool, .long h0_otherWage, .long h0_otherGift, .long h0_schoolSchool, .long h0_schoolWage, .long h0_wageWage]))] sz [] []) (va_Ql (fun (r : Int64) (u : Unit) => ((0 ≤ p1.toInt ∧ p1.toInt ≤ 300 * h0_n.toInt ∧ 0 ≤ p2.toInt ∧ p2.toInt ≤ 300 * h0_others.toInt ∧ 0 ≤ p3.toInt ∧ p3.toInt ≤ 90000 * (h0_n.toInt + h0_others.toInt)) → (-2000000000000 ≤ r.toInt ∧ r.toInt ≤ 2000000000000))) (zB (dC, dI) (zT cB cI cJ cZ cP cQ) (fun u : Unit => [(h0, .inr (6, [.long h0_n, .long h0_school, .long h0_wage, .long h0_gift, .long h0_others, .long h0_otherSchool, .long h0_otherWage, .long h0_otherGift, .long h0_schoolSchool, .long h0_schoolWage, .long h0_wageWage]))]) [(h0, .inr (6, [.long h0_n, .long h0_school, .long h0_wage, .long h0_gift, .long h0_others, .long h0_otherSchool, .long h0_otherWage, .long h0_otherGift, .long h0_schoolSchool, .long h0_schoolWage, .long h0_wageWage]))] sz) (va_A [(h0, .inr (6, [.long h0_n, .long h0_school, .long h0_wage, .long h0_gift, .long h0_others, .long h0_otherSchool, .long h0_otherWage, .long h0_otherGift, .long h0_schoolSchool, .long h0_schoolWage, .long h0_wageWage]))] sz)) 0 0 (va_A [(h0, .inr (6, [.long h0_n, .long h0_school, .long h0_wage, .long h0_gift, .long h0_others, .long h0_otherSchool, .long h0_otherWage, .long h0_otherGift, .long h0_schoolSchool, .long h0_schoolWage, .long h0_wageWage]))] sz) := by
  refine z_enter (cc := cX6_withinOf) (maxL := 7) (ret := (some .long)) (by decide) rfl (Nat.le_of_ble_eq_true rfl) ?_
  intro p e s m below meth c A ls Q H locs hx hb hr hml hown hts hlocks hin hK hP hD hA hX hS hAe hQ hl
  have hown : s.vm.findClass RX6 = some m.cls := hown
  have hi6 : ∀ w ∈ wsX60, w ∈ wsX6_withinOf := fun w h => List.mem_cons_of_mem _ (List.mem_append_right _ h)
  have hk0 := hts (.fieldLink RX6 9 "MonthPush$Split" "n" "J") (List.mem_of_getElem? (i := 1) rfl)
  have hk1 := hts (.fieldLink RX6 24 "MonthPush$Split" "others" "J") (List.mem_of_getElem? (i := 2) rfl)
  have hl : lv_has ls 7 [(0, .ref h0), (1, .long p1), (3, .long p2), (5, .long p3)] := hl
  refine lv_aload_n hx hb dX6_withinOf_0 rfl (lv_at hl 0 rfl) ?_
  refine va_get (D := (dC, dI)) (ci := 6) (v := .long h0_n) (C := RX6) (T := TX6) (N := 11) hx hb hts hi6 hown hK hP 0 rfl rfl 0 (by decide) hk0 (fun _ h9 => h9) rfl dX6_withinOf_1 ?_
  refine lv_aload_n hx hb dX6_withinOf_4 rfl (lv_at hl 0 rfl) ?_
  refine va_get (D := (dC, dI)) (ci := 6) (v := .long h0_others) (C := RX6) (T := TX6) (N := 11) hx hb hts hi6 hown hK hP 0 rfl rfl 4 (by decide) hk1 (fun _ h9 => h9) rfl dX6_withinOf_5 ?_
  refine lv_lmul hx hb dX6_withinOf_8 ?_
  refine lv_lload hx hb dX6_withinOf_9 (lv_at hl 3 rfl) ?_
  refine lv_lmul hx hb dX6_withinOf_11 ?_
  refine lv_lload_n hx hb dX6_withinOf_12 rfl (lv_at hl 1 rfl) ?_
  refine lv_lload_n hx hb dX6_withinOf_13 rfl (lv_at hl 1 rfl) ?_
  refine lv_lmul hx hb dX6_withinOf_14 ?_
  refine lv_aload_n hx hb dX6_withinOf_15 rfl (lv_at hl 0 rfl) ?_
  refine va_get (D := (dC, dI)) (ci := 6) (v := .long h0_others) (C := RX6) (T := TX6) (N := 11) hx hb hts hi6 hown hK hP 0 rfl rfl 4 (by decide) hk1 (fun _ h9 => h9) rfl dX6_withinOf_16 ?_
  refine lv_lmul hx hb dX6_withinOf_19 ?_
  refine lv_lsub hx hb dX6_withinOf_20 ?_
  refine lv_lload_n hx hb dX6_withinOf_21 rfl (lv_at hl 2 rfl) ?_
  refine lv_lload_n hx hb dX6_withinOf_22 rfl (lv_at hl 2 rfl) ?_
  refine lv_lmul hx hb dX6_withinOf_23 ?_
  refine lv_aload_n hx hb dX6_withinOf_24 rfl (lv_at hl 0 rfl) ?_
  refine va_get (D := (dC, dI)) (ci := 6) (v := .long h0_n) (C := RX6) (T := TX6) (N := 11) hx hb hts hi6 hown hK hP 0 rfl rfl 0 (by decide) hk0 (fun _ h9 => h9) rfl dX6_withinOf_25 ?_
  refine lv_lmul hx hb dX6_withinOf_28 ?_
  refine lv_lsub hx hb dX6_withinOf_29 ?_
  exact y_lret () hx hb hr hlocks hK hP hD hS hAe hQ rfl (show (0 ≤ p1.toInt ∧ p1.toInt ≤ 300 * h0_n.toInt ∧ 0 ≤ p2.toInt ∧ p2.toInt ≤ 300 * h0_others.toInt ∧ 0 ≤ p3.toInt ∧ p3.toInt ≤ 90000 * (h0_n.toInt + h0_others.toInt)) → (-2000000000000 ≤ (((((h0_n * h0_others) * p3) - ((p1 * p1) * h0_others)) - ((p2 * p2) * h0_n)).toInt) ∧ (((((h0_n * h0_others) * p3) - ((p1 * p1) * h0_others)) - ((p2 * p2) * h0_n)).toInt) ≤ 2000000000000) from fun h => z_within (by omega) (by omega) (by omega) (by omega) (by omega) (by omega) (by omega) (by omega) (by omega) (by omega)) dX6_withinOf_30
set_option maxHeartbeats 8000000 in
set_option maxRecDepth 100000 in
theorem k_X6_leftWithin (l : Launch) (dC : Nat → ClassId) (dI : Nat → Nat → Nat) (cB cI cJ cZ cP cQ : ClassId) (h0 : Nat) (sz : Nat) (p1 : Int64) (h0_n : Int64) (h0_school : Int64) (h0_wage : Int64) (h0_gift : Int64) (h0_others : Int64) (h0_otherSchool : Int64) (h0_otherWage : Int64) (h0_otherGift : Int64) (h0_schoolSchool : Int64) (h0_schoolWage : Int64) (h0_wageWage : Int64) (e0 : 0 ≤ h0_n.toInt) (e1 : 0 ≤ h0_others.toInt) (e2 : h0_n.toInt ≤ 200) (e3 : h0_others.toInt ≤ 200) (e4 : h0_n.toInt + h0_others.toInt ≤ 200) (e5 : 0 ≤ h0_school.toInt) (e6 : h0_school.toInt ≤ 300 * h0_n.toInt) (e7 : 0 ≤ h0_otherSchool.toInt) (e8 : h0_otherSchool.toInt ≤ 300 * h0_others.toInt) (e9 : 0 ≤ h0_schoolSchool.toInt) (e10 : h0_schoolSchool.toInt ≤ 90000 * (h0_n.toInt + h0_others.toInt)) : Met l yX6_leftWithin wsX6_leftWithin ({ frames := 1, cells := 0, slots := 0, locals := 26 } : Room) (zPc [.ref h0, .long p1] (dC, dI) (zT cB cI cJ cZ cP cQ) [(h0, .inr (6, [.long h0_n, .long h0_school, .long h0_wage, .long h0_gift, .long h0_others, .long h0_otherSchool, .long h0_otherWage, .long h0_otherGift, .long h0_schoolSchool, .long h0_schoolWage, .long h0_wageWage]))] sz [] []) (va_Ql (fun (r : Int64) (u : Unit) => True) (zB (dC, dI) (zT cB cI cJ cZ cP cQ) (fun u : Unit => [(h0, .inr (6, [.long h0_n, .long h0_school, .long h0_wage, .long h0_gift, .long h0_others, .long h0_otherSchool, .long h0_otherWage, .long h0_otherGift, .long h0_schoolSchool, .long h0_schoolWage, .long h0_wageWage]))]) [(h0, .inr (6, [.long h0_n, .long h0_school, .long h0_wage, .long h0_gift, .long h0_others, .long h0_otherSchool, .long h0_otherWage, .long h0_otherGift, .long h0_schoolSchool, .long h0_schoolWage, .long h0_wageWage]))] sz) (va_A [(h0, .inr (6, [.long h0_n, .long h0_school, .long h0_wage, .long h0_gift, .long h0_others, .long h0_otherSchool, .long h0_otherWage, .long h0_otherGift, .long h0_schoolSchool, .long h0_schoolWage, .long h0_wageWage]))] sz)) 0 0 (va_A [(h0, .inr (6, [.long h0_n, .long h0_school, .long h0_wage, .long h0_gift, .long h0_others, .long h0_otherSchool, .long h0_otherWage, .long h0_otherGift, .long h0_schoolSchool, .long h0_schoolWage, .long h0_wageWage]))] sz) := by
  refine z_enter (cc := cX6_leftWithin) (maxL := 5) (ret := (some .long)) (by decide) rfl (Nat.le_of_ble_eq_true rfl) ?_
  intro p e s m below meth c A ls Q H locs hx hb hr hml hown hts hlocks hin hK hP hD hA hX hS hAe hQ hl
  have hown : s.vm.findClass RX6 = some m.cls := hown
  have hi6 : ∀ w ∈ wsX60, w ∈ wsX6_leftWithin := fun w h => List.mem_cons_of_mem _ (List.mem_append_right _ h)
  have hk0 := hts (.fieldLink RX6 42 "MonthPush$Split" "wageWage" "J") (List.mem_of_getElem? (i := 1) rfl)
  have hk1 := hts (.constantLong RX6 94 2) (List.mem_of_getElem? (i := 2) rfl)
  have hk2 := hts (.fieldLink RX6 39 "MonthPush$Split" "schoolWage" "J") (List.mem_of_getElem? (i := 3) rfl)
  have hk3 := hts (.fieldLink RX6 36 "MonthPush$Split" "schoolSchool" "J") (List.mem_of_getElem? (i := 4) rfl)
  have hk4 := hts (.fieldLink RX6 18 "MonthPush$Split" "wage" "J") (List.mem_of_getElem? (i := 5) rfl)
  have hk5 := hts (.fieldLink RX6 15 "MonthPush$Split" "school" "J") (List.mem_of_getElem? (i := 6) rfl)
  have hk6 := hts (.fieldLink RX6 30 "MonthPush$Split" "otherWage" "J") (List.mem_of_getElem? (i := 7) rfl)
  have hk7 := hts (.fieldLink RX6 27 "MonthPush$Split" "otherSchool" "J") (List.mem_of_getElem? (i := 8) rfl)
  have hl : lv_has ls 5 [(0, .ref h0), (1, .long p1)] := hl
  refine lv_aload_n hx hb dX6_leftWithin_0 rfl (lv_at hl 0 rfl) ?_
  refine va_get (D := (dC, dI)) (ci := 6) (v := .long h0_wageWage) (C := RX6) (T := TX6) (N := 11) hx hb hts hi6 hown hK hP 0 rfl rfl 10 (by decide) hk0 (fun _ h9 => h9) rfl dX6_leftWithin_1 ?_
  refine lv_ldc2 hx hb hown hk1 dX6_leftWithin_4 ?_
  refine lv_lload_n hx hb dX6_leftWithin_7 rfl (lv_at hl 1 rfl) ?_
  refine lv_lmul hx hb dX6_leftWithin_8 ?_
  refine lv_topl (fun r1 _ => ?_)
  refine lv_aload_n hx hb dX6_leftWithin_9 rfl (lv_at hl 0 rfl) ?_
  refine va_get (D := (dC, dI)) (ci := 6) (v := .long h0_schoolWage) (C := RX6) (T := TX6) (N := 11) hx hb hts hi6 hown hK hP 0 rfl rfl 9 (by decide) hk2 (fun _ h9 => h9) rfl dX6_leftWithin_10 ?_
  refine lv_lmul hx hb dX6_leftWithin_13 ?_
  refine lv_topl (fun r2 _ => ?_)
  refine lv_lsub hx hb dX6_leftWithin_14 ?_
  refine lv_topl (fun r3 _ => ?_)
  refine lv_lload_n hx hb dX6_leftWithin_15 rfl (lv_at hl 1 rfl) ?_
  refine lv_lload_n hx hb dX6_leftWithin_16 rfl (lv_at hl 1 rfl) ?_
  refine lv_lmul hx hb dX6_leftWithin_17 ?_
  refine lv_topl (fun r4 _ => ?_)
  refine lv_aload_n hx hb dX6_leftWithin_18 rfl (lv_at hl 0 rfl) ?_
  refine va_get (D := (dC, dI)) (ci := 6) (v := .long h0_schoolSchool) (C := RX6) (T := TX6) (N := 11) hx hb hts hi6 hown hK hP 0 rfl rfl 8 (by decide) hk3 (fun _ h9 => h9) rfl dX6_leftWithin_19 ?_
  refine lv_lmul hx hb dX6_leftWithin_22 ?_
  refine lv_topl (fun r5 _ => ?_)
  refine lv_ladd hx hb dX6_leftWithin_23 ?_
  refine lv_topl (fun r6 _ => ?_)
  refine lv_lstore_n (lv' := [(3, .long r6), (0, .ref h0), (1, .long p1)]) hx hb dX6_leftWithin_24 rfl hl (by decide) rfl (fun ls hl => ?_)
  refine lv_aload_n hx hb dX6_leftWithin_25 rfl (lv_at hl 1 rfl) ?_
  refine lv_aload_n hx hb dX6_leftWithin_26 rfl (lv_at hl 1 rfl) ?_
  refine va_get (D := (dC, dI)) (ci := 6) (v := .long h0_wage) (C := RX6) (T := TX6) (N := 11) hx hb hts hi6 hown hK hP 0 rfl rfl 2 (by decide) hk4 (fun _ h9 => h9) rfl dX6_leftWithin_27 ?_
  refine lv_lload_n hx hb dX6_leftWithin_30 rfl (lv_at hl 2 rfl) ?_
  refine lv_aload_n hx hb dX6_leftWithin_31 rfl (lv_at hl 1 rfl) ?_
  refine va_get (D := (dC, dI)) (ci := 6) (v := .long h0_school) (C := RX6) (T := TX6) (N := 11) hx hb hts hi6 hown hK hP 0 rfl rfl 1 (by decide) hk5 (fun _ h9 => h9) rfl dX6_leftWithin_32 ?_
  refine lv_lmul hx hb dX6_leftWithin_35 ?_
  refine lv_topl (fun r7 _ => ?_)
  refine lv_lsub hx hb dX6_leftWithin_36 ?_
  refine lv_topl (fun r8 _ => ?_)
  refine lv_aload_n hx hb dX6_leftWithin_37 rfl (lv_at hl 1 rfl) ?_
  refine va_get (D := (dC, dI)) (ci := 6) (v := .long h0_otherWage) (C := RX6) (T := TX6) (N := 11) hx hb hts hi6 hown hK hP 0 rfl rfl 6 (by decide) hk6 (fun _ h9 => h9) rfl dX6_leftWithin_38 ?_
  refine lv_lload_n hx hb dX6_leftWithin_41 rfl (lv_at hl 2 rfl) ?_
  refine lv_aload_n hx hb dX6_leftWithin_42 rfl (lv_at hl 1 rfl) ?_
  refine va_get (D := (dC, dI)) (ci := 6) (v := .long h0_otherSchool) (C := RX6) (T := TX6) (N := 11) hx hb hts hi6 hown hK hP 0 rfl rfl 5 (by decide) hk7 (fun _ h9 => h9) rfl dX6_leftWithin_43 ?_
  refine lv_lmul hx hb dX6_leftWithin_46 ?_
  refine lv_topl (fun r9 _ => ?_)
  refine lv_lsub hx hb dX6_leftWithin_47 ?_
  refine lv_topl (fun r10 _ => ?_)
  refine lv_lload_n hx hb dX6_leftWithin_48 rfl (lv_at hl 0 rfl) ?_
  refine y_finl (w' := fun (u11 : Unit) => [(h0, .inr (6, [.long h0_n, .long h0_school, .long h0_wage, .long h0_gift, .long h0_others, .long h0_otherSchool, .long h0_otherWage, .long h0_otherGift, .long h0_schoolSchool, .long h0_schoolWage, .long h0_wageWage]))]) (va_runV (As := [.long r8, .long r10, .long r6]) (rest := []) ⟨hx, hb, hml, hown, hts⟩ (k_X6_withinOf l dC dI cB cI cJ cZ cP cQ h0 H.size r8 r10 r6 h0_n h0_school h0_wage h0_gift h0_others h0_otherSchool h0_otherWage h0_otherGift h0_schoolSchool h0_schoolWage h0_wageWage (show 0 ≤ h0_n.toInt from by omega) (show 0 ≤ h0_others.toInt from by omega) (show h0_n.toInt ≤ 200 from by omega) (show h0_others.toInt ≤ 200 from by omega) (show h0_n.toInt + h0_others.toInt ≤ 200 from by omega) (show 0 ≤ h0_school.toInt from by omega) (show h0_school.toInt ≤ 300 * h0_n.toInt from by omega) (show 0 ≤ h0_otherSchool.toInt from by omega) (show h0_otherSchool.toInt ≤ 300 * h0_others.toInt from by omega) (show 0 ≤ h0_schoolSchool.toInt from by omega) (show h0_schoolSchool.toInt ≤ 90000 * (h0_n.toInt + h0_others.toInt) from by omega)) (cwV 3 hts gX6_leftWithin_X6_withinOf rfl rfl rfl ⟨rfl, hd_X6_withinOf⟩ ⟨Nat.le_of_ble_eq_true rfl, Nat.le_of_ble_eq_true rfl⟩) (z_pV (ci := 6) hK hP hD zX_nil [0] (by decide) rfl rfl 0 rfl) rfl rfl hl.1 rfl (lv_room (Nat.le_of_ble_eq_true rfl)) dX6_leftWithin_49 ⟨Nat.le_of_ble_eq_true rfl, Nat.le_of_ble_eq_true rfl⟩) hP hD hS hA [0] [] [0] rfl rfl (by decide) (by decide) (fun _ => rfl) (by decide) (fun r12 u11 H locs hp13 hP hD hS => ?_)
  have hP : va_P (dC, dI) vwCl [(h0, .inr (6, [.long h0_n, .long h0_school, .long h0_wage, .long h0_gift, .long h0_others, .long h0_otherSchool, .long h0_otherWage, .long h0_otherGift, .long h0_schoolSchool, .long h0_schoolWage, .long h0_wageWage]))] H := hP
  have hD : va_D A [(h0, .inr (6, [.long h0_n, .long h0_school, .long h0_wage, .long h0_gift, .long h0_others, .long h0_otherSchool, .long h0_otherWage, .long h0_otherGift, .long h0_schoolSchool, .long h0_schoolWage, .long h0_wageWage]))] := hD
  have hp13 : ((0 ≤ r8.toInt ∧ r8.toInt ≤ 300 * h0_n.toInt ∧ 0 ≤ r10.toInt ∧ r10.toInt ≤ 300 * h0_others.toInt ∧ 0 ≤ r6.toInt ∧ r6.toInt ≤ 90000 * (h0_n.toInt + h0_others.toInt)) → (-2000000000000 ≤ r12.toInt ∧ r12.toInt ≤ 2000000000000)) := hp13
  have f14 := hp13
  exact y_lret () hx hb hr hlocks hK hP hD hS hAe hQ rfl trivial dX6_leftWithin_52
set_option maxHeartbeats 8000000 in
set_option maxRecDepth 100000 in
theorem k_X6_leftGap (l : Launch) (dC : Nat → ClassId) (dI : Nat → Nat → Nat) (cB cI cJ cZ cP cQ : ClassId) (h0 : Nat) (sz : Nat) (p1 : Int64) (h0_n : Int64) (h0_school : Int64) (h0_wage : Int64) (h0_gift : Int64) (h0_others : Int64) (h0_otherSchool : Int64) (h0_otherWage : Int64) (h0_otherGift : Int64) (h0_schoolSchool : Int64) (h0_schoolWage : Int64) (h0_wageWage : Int64) (e0 : 0 ≤ h0_n.toInt) (e1 : 0 ≤ h0_others.toInt) (e2 : h0_n.toInt ≤ 200) (e3 : h0_others.toInt ≤ 200) (e4 : h0_n.toInt + h0_others.toInt ≤ 200) (e5 : 0 ≤ h0_school.toInt) (e6 : h0_school.toInt ≤ 300 * h0_n.toInt) (e7 : 0 ≤ h0_otherSchool.toInt) (e8 : h0_otherSchool.toInt ≤ 300 * h0_others.toInt) (e9 : 0 ≤ h0_schoolSchool.toInt) (e10 : h0_schoolSchool.toInt ≤ 90000 * (h0_n.toInt + h0_others.toInt)) : Met l yX6_leftGap wsX6_leftGap ({ frames := 1, cells := 0, slots := 0, locals := 24 } : Room) (zPc [.ref h0, .long p1] (dC, dI) (zT cB cI cJ cZ cP cQ) [(h0, .inr (6, [.long h0_n, .long h0_school, .long h0_wage, .long h0_gift, .long h0_others, .long h0_otherSchool, .long h0_otherWage, .long h0_otherGift, .long h0_schoolSchool, .long h0_schoolWage, .long h0_wageWage]))] sz [] []) (va_Ql (fun (r : Int64) (u : Unit) => True) (zB (dC, dI) (zT cB cI cJ cZ cP cQ) (fun u : Unit => [(h0, .inr (6, [.long h0_n, .long h0_school, .long h0_wage, .long h0_gift, .long h0_others, .long h0_otherSchool, .long h0_otherWage, .long h0_otherGift, .long h0_schoolSchool, .long h0_schoolWage, .long h0_wageWage]))]) [(h0, .inr (6, [.long h0_n, .long h0_school, .long h0_wage, .long h0_gift, .long h0_others, .long h0_otherSchool, .long h0_otherWage, .long h0_otherGift, .long h0_schoolSchool, .long h0_schoolWage, .long h0_wageWage]))] sz) (va_A [(h0, .inr (6, [.long h0_n, .long h0_school, .long h0_wage, .long h0_gift, .long h0_others, .long h0_otherSchool, .long h0_otherWage, .long h0_otherGift, .long h0_schoolSchool, .long h0_schoolWage, .long h0_wageWage]))] sz)) 0 0 (va_A [(h0, .inr (6, [.long h0_n, .long h0_school, .long h0_wage, .long h0_gift, .long h0_others, .long h0_otherSchool, .long h0_otherWage, .long h0_otherGift, .long h0_schoolSchool, .long h0_schoolWage, .long h0_wageWage]))] sz) := by
  refine z_enter (cc := cX6_leftGap) (maxL := 3) (ret := (some .long)) (by decide) rfl (Nat.le_of_ble_eq_true rfl) ?_
  intro p e s m below meth c A ls Q H locs hx hb hr hml hown hts hlocks hin hK hP hD hA hX hS hAe hQ hl
  have hown : s.vm.findClass RX6 = some m.cls := hown
  have hi6 : ∀ w ∈ wsX60, w ∈ wsX6_leftGap := fun w h => List.mem_cons_of_mem _ (List.mem_append_right _ h)
  have hk0 := hts (.fieldLink RX6 18 "MonthPush$Split" "wage" "J") (List.mem_of_getElem? (i := 1) rfl)
  have hk1 := hts (.fieldLink RX6 15 "MonthPush$Split" "school" "J") (List.mem_of_getElem? (i := 2) rfl)
  have hk2 := hts (.fieldLink RX6 30 "MonthPush$Split" "otherWage" "J") (List.mem_of_getElem? (i := 3) rfl)
  have hk3 := hts (.fieldLink RX6 27 "MonthPush$Split" "otherSchool" "J") (List.mem_of_getElem? (i := 4) rfl)
  have hl : lv_has ls 3 [(0, .ref h0), (1, .long p1)] := hl
  refine lv_aload_n hx hb dX6_leftGap_0 rfl (lv_at hl 0 rfl) ?_
  refine lv_aload_n hx hb dX6_leftGap_1 rfl (lv_at hl 0 rfl) ?_
  refine va_get (D := (dC, dI)) (ci := 6) (v := .long h0_wage) (C := RX6) (T := TX6) (N := 11) hx hb hts hi6 hown hK hP 0 rfl rfl 2 (by decide) hk0 (fun _ h9 => h9) rfl dX6_leftGap_2 ?_
  refine lv_lload_n hx hb dX6_leftGap_5 rfl (lv_at hl 1 rfl) ?_
  refine lv_aload_n hx hb dX6_leftGap_6 rfl (lv_at hl 0 rfl) ?_
  refine va_get (D := (dC, dI)) (ci := 6) (v := .long h0_school) (C := RX6) (T := TX6) (N := 11) hx hb hts hi6 hown hK hP 0 rfl rfl 1 (by decide) hk1 (fun _ h9 => h9) rfl dX6_leftGap_7 ?_
  refine lv_lmul hx hb dX6_leftGap_10 ?_
  refine lv_topl (fun r1 _ => ?_)
  refine lv_lsub hx hb dX6_leftGap_11 ?_
  refine lv_topl (fun r2 _ => ?_)
  refine lv_aload_n hx hb dX6_leftGap_12 rfl (lv_at hl 0 rfl) ?_
  refine va_get (D := (dC, dI)) (ci := 6) (v := .long h0_otherWage) (C := RX6) (T := TX6) (N := 11) hx hb hts hi6 hown hK hP 0 rfl rfl 6 (by decide) hk2 (fun _ h9 => h9) rfl dX6_leftGap_13 ?_
  refine lv_lload_n hx hb dX6_leftGap_16 rfl (lv_at hl 1 rfl) ?_
  refine lv_aload_n hx hb dX6_leftGap_17 rfl (lv_at hl 0 rfl) ?_
  refine va_get (D := (dC, dI)) (ci := 6) (v := .long h0_otherSchool) (C := RX6) (T := TX6) (N := 11) hx hb hts hi6 hown hK hP 0 rfl rfl 5 (by decide) hk3 (fun _ h9 => h9) rfl dX6_leftGap_18 ?_
  refine lv_lmul hx hb dX6_leftGap_21 ?_
  refine lv_topl (fun r3 _ => ?_)
  refine lv_lsub hx hb dX6_leftGap_22 ?_
  refine lv_topl (fun r4 _ => ?_)
  refine y_finl (w' := fun (u5 : Unit) => [(h0, .inr (6, [.long h0_n, .long h0_school, .long h0_wage, .long h0_gift, .long h0_others, .long h0_otherSchool, .long h0_otherWage, .long h0_otherGift, .long h0_schoolSchool, .long h0_schoolWage, .long h0_wageWage]))]) (va_runV (As := [.long r2, .long r4]) (rest := []) ⟨hx, hb, hml, hown, hts⟩ (k_X6_gapOf l dC dI cB cI cJ cZ cP cQ h0 H.size r2 r4 h0_n h0_school h0_wage h0_gift h0_others h0_otherSchool h0_otherWage h0_otherGift h0_schoolSchool h0_schoolWage h0_wageWage (show 0 ≤ h0_n.toInt from by omega) (show 0 ≤ h0_others.toInt from by omega) (show h0_n.toInt ≤ 200 from by omega) (show h0_others.toInt ≤ 200 from by omega) (show h0_n.toInt + h0_others.toInt ≤ 200 from by omega) (show 0 ≤ h0_school.toInt from by omega) (show h0_school.toInt ≤ 300 * h0_n.toInt from by omega) (show 0 ≤ h0_otherSchool.toInt from by omega) (show h0_otherSchool.toInt ≤ 300 * h0_others.toInt from by omega) (show 0 ≤ h0_schoolSchool.toInt from by omega) (show h0_schoolSchool.toInt ≤ 90000 * (h0_n.toInt + h0_others.toInt) from by omega)) (cwV 2 hts gX6_leftGap_X6_gapOf rfl rfl rfl ⟨rfl, hd_X6_gapOf⟩ ⟨Nat.le_of_ble_eq_true rfl, Nat.le_of_ble_eq_true rfl⟩) (z_pV (ci := 6) hK hP hD zX_nil [0] (by decide) rfl rfl 0 rfl) rfl rfl hl.1 rfl (lv_room (Nat.le_of_ble_eq_true rfl)) dX6_leftGap_23 ⟨Nat.le_of_ble_eq_true rfl, Nat.le_of_ble_eq_true rfl⟩) hP hD hS hA [0] [] [0] rfl rfl (by decide) (by decide) (fun _ => rfl) (by decide) (fun r6 u5 H locs hp7 hP hD hS => ?_)
  have hP : va_P (dC, dI) vwCl [(h0, .inr (6, [.long h0_n, .long h0_school, .long h0_wage, .long h0_gift, .long h0_others, .long h0_otherSchool, .long h0_otherWage, .long h0_otherGift, .long h0_schoolSchool, .long h0_schoolWage, .long h0_wageWage]))] H := hP
  have hD : va_D A [(h0, .inr (6, [.long h0_n, .long h0_school, .long h0_wage, .long h0_gift, .long h0_others, .long h0_otherSchool, .long h0_otherWage, .long h0_otherGift, .long h0_schoolSchool, .long h0_schoolWage, .long h0_wageWage]))] := hD
  have hp7 : True := hp7
  exact y_lret () hx hb hr hlocks hK hP hD hS hAe hQ rfl trivial dX6_leftGap_26
set_option maxHeartbeats 8000000 in
set_option maxRecDepth 100000 in
theorem k_X6_keeps (l : Launch) (dC : Nat → ClassId) (dI : Nat → Nat → Nat) (cB cI cJ cZ cP cQ : ClassId) (h0 : Nat) (sz : Nat) (p1 : Int64) (p2 : Int64) (p3 : Int32) (h0_n : Int64) (h0_school : Int64) (h0_wage : Int64) (h0_gift : Int64) (h0_others : Int64) (h0_otherSchool : Int64) (h0_otherWage : Int64) (h0_otherGift : Int64) (h0_schoolSchool : Int64) (h0_schoolWage : Int64) (h0_wageWage : Int64) (e0 : 0 ≤ h0_n.toInt) (e1 : 0 ≤ h0_others.toInt) (e2 : h0_n.toInt ≤ 200) (e3 : h0_others.toInt ≤ 200) (e4 : h0_n.toInt + h0_others.toInt ≤ 200) (e5 : 0 ≤ h0_school.toInt) (e6 : h0_school.toInt ≤ 300 * h0_n.toInt) (e7 : 0 ≤ h0_otherSchool.toInt) (e8 : h0_otherSchool.toInt ≤ 300 * h0_others.toInt) (e9 : 0 ≤ h0_schoolSchool.toInt) (e10 : h0_schoolSchool.toInt ≤ 90000 * (h0_n.toInt + h0_others.toInt)) : Met l yX6_keeps wsX6_keeps ({ frames := 2, cells := 0, slots := 0, locals := 46 } : Room) (zPc [.ref h0, .long p1, .long p2, .int p3] (dC, dI) (zT cB cI cJ cZ cP cQ) [(h0, .inr (6, [.long h0_n, .long h0_school, .long h0_wage, .long h0_gift, .long h0_others, .long h0_otherSchool, .long h0_otherWage, .long h0_otherGift, .long h0_schoolSchool, .long h0_schoolWage, .long h0_wageWage]))] sz [] []) (va_Qi (fun (r : Int32) (u : Unit) => (r = 0) ∨ (r = 1)) (zB (dC, dI) (zT cB cI cJ cZ cP cQ) (fun u : Unit => [(h0, .inr (6, [.long h0_n, .long h0_school, .long h0_wage, .long h0_gift, .long h0_others, .long h0_otherSchool, .long h0_otherWage, .long h0_otherGift, .long h0_schoolSchool, .long h0_schoolWage, .long h0_wageWage]))]) [(h0, .inr (6, [.long h0_n, .long h0_school, .long h0_wage, .long h0_gift, .long h0_others, .long h0_otherSchool, .long h0_otherWage, .long h0_otherGift, .long h0_schoolSchool, .long h0_schoolWage, .long h0_wageWage]))] sz) (va_A [(h0, .inr (6, [.long h0_n, .long h0_school, .long h0_wage, .long h0_gift, .long h0_others, .long h0_otherSchool, .long h0_otherWage, .long h0_otherGift, .long h0_schoolSchool, .long h0_schoolWage, .long h0_wageWage]))] sz)) 0 0 (va_A [(h0, .inr (6, [.long h0_n, .long h0_school, .long h0_wage, .long h0_gift, .long h0_others, .long h0_otherSchool, .long h0_otherWage, .long h0_otherGift, .long h0_schoolSchool, .long h0_schoolWage, .long h0_wageWage]))] sz) := by
  refine z_enter (cc := cX6_keeps) (maxL := 10) (ret := (some .boolean)) (by decide) rfl (Nat.le_of_ble_eq_true rfl) ?_
  intro p e s m below meth c A ls Q H locs hx hb hr hml hown hts hlocks hin hK hP hD hA hX hS hAe hQ hl
  have hown : s.vm.findClass RX6 = some m.cls := hown
  have hi6 : ∀ w ∈ wsX60, w ∈ wsX6_keeps := fun w h => List.mem_cons_of_mem _ (List.mem_append_right _ h)
  have hk0 := hts (.fieldLink RX6 9 "MonthPush$Split" "n" "J") (List.mem_of_getElem? (i := 1) rfl)
  have hk1 := hts (.fieldLink RX6 24 "MonthPush$Split" "others" "J") (List.mem_of_getElem? (i := 2) rfl)
  have hk2 := hts (.constantLong RX6 94 2) (List.mem_of_getElem? (i := 3) rfl)
  have hl : lv_has ls 10 [(0, .ref h0), (1, .long p1), (3, .long p2), (5, .int p3)] := hl
  refine lv_aload_n hx hb dX6_keeps_0 rfl (lv_at hl 0 rfl) ?_
  refine lv_lload_n hx hb dX6_keeps_1 rfl (lv_at hl 1 rfl) ?_
  refine y_finl (w' := fun (u1 : Unit) => [(h0, .inr (6, [.long h0_n, .long h0_school, .long h0_wage, .long h0_gift, .long h0_others, .long h0_otherSchool, .long h0_otherWage, .long h0_otherGift, .long h0_schoolSchool, .long h0_schoolWage, .long h0_wageWage]))]) (va_runV (As := [.long p1]) (rest := []) ⟨hx, hb, hml, hown, hts⟩ (k_X6_leftGap l dC dI cB cI cJ cZ cP cQ h0 H.size p1 h0_n h0_school h0_wage h0_gift h0_others h0_otherSchool h0_otherWage h0_otherGift h0_schoolSchool h0_schoolWage h0_wageWage (show 0 ≤ h0_n.toInt from by omega) (show 0 ≤ h0_others.toInt from by omega) (show h0_n.toInt ≤ 200 from by omega) (show h0_others.toInt ≤ 200 from by omega) (show h0_n.toInt + h0_others.toInt ≤ 200 from by omega) (show 0 ≤ h0_school.toInt from by omega) (show h0_school.toInt ≤ 300 * h0_n.toInt from by omega) (show 0 ≤ h0_otherSchool.toInt from by omega) (show h0_otherSchool.toInt ≤ 300 * h0_others.toInt from by omega) (show 0 ≤ h0_schoolSchool.toInt from by omega) (show h0_schoolSchool.toInt ≤ 90000 * (h0_n.toInt + h0_others.toInt) from by omega)) (cwV 1 hts gX6_keeps_X6_leftGap rfl rfl rfl ⟨rfl, hd_X6_leftGap⟩ ⟨Nat.le_of_ble_eq_true rfl, Nat.le_of_ble_eq_true rfl⟩) (z_pV (ci := 6) hK hP hD zX_nil [0] (by decide) rfl rfl 0 rfl) rfl rfl hl.1 rfl (lv_room (Nat.le_of_ble_eq_true rfl)) dX6_keeps_2 ⟨Nat.le_of_ble_eq_true rfl, Nat.le_of_ble_eq_true rfl⟩) hP hD hS hA [0] [] [0] rfl rfl (by decide) (by decide) (fun _ => rfl) (by decide) (fun r2 u1 H locs hp3 hP hD hS => ?_)
  have hP : va_P (dC, dI) vwCl [(h0, .inr (6, [.long h0_n, .long h0_school, .long h0_wage, .long h0_gift, .long h0_others, .long h0_otherSchool, .long h0_otherWage, .long h0_otherGift, .long h0_schoolSchool, .long h0_schoolWage, .long h0_wageWage]))] H := hP
  have hD : va_D A [(h0, .inr (6, [.long h0_n, .long h0_school, .long h0_wage, .long h0_gift, .long h0_others, .long h0_otherSchool, .long h0_otherWage, .long h0_otherGift, .long h0_schoolSchool, .long h0_schoolWage, .long h0_wageWage]))] := hD
  have hp3 : True := hp3
  refine lv_lstore (lv' := [(6, .long r2), (0, .ref h0), (1, .long p1), (3, .long p2), (5, .int p3)]) hx hb dX6_keeps_5 hl (by decide) rfl (fun ls hl => ?_)
  refine lv_aload_n hx hb dX6_keeps_7 rfl (lv_at hl 1 rfl) ?_
  refine va_get (D := (dC, dI)) (ci := 6) (v := .long h0_n) (C := RX6) (T := TX6) (N := 11) hx hb hts hi6 hown hK hP 0 rfl rfl 0 (by decide) hk0 (fun _ h9 => h9) rfl dX6_keeps_8 ?_
  refine lv_aload_n hx hb dX6_keeps_11 rfl (lv_at hl 1 rfl) ?_
  refine va_get (D := (dC, dI)) (ci := 6) (v := .long h0_others) (C := RX6) (T := TX6) (N := 11) hx hb hts hi6 hown hK hP 0 rfl rfl 4 (by decide) hk1 (fun _ h9 => h9) rfl dX6_keeps_12 ?_
  refine lv_ladd hx hb dX6_keeps_15 ?_
  refine lv_topl (fun r5 _ => ?_)
  refine lv_ldc2 hx hb hown hk2 dX6_keeps_16 ?_
  refine lv_lsub hx hb dX6_keeps_19 ?_
  refine lv_topl (fun r6 _ => ?_)
  refine lv_lstore (lv' := [(8, .long r6), (6, .long r2), (0, .ref h0), (1, .long p1), (3, .long p2), (5, .int p3)]) hx hb dX6_keeps_20 hl (by decide) rfl (fun ls hl => ?_)
  refine lv_lload hx hb dX6_keeps_22 (lv_at hl 0 rfl) ?_
  refine lv_lconst (v := 0) hx hb dX6_keeps_24 (by decide) ?_
  refine W.lcmp hx hb dX6_keeps_25 ?_
  refine lv_if_le (tgt := 60) hx hb dX6_keeps_26 (by decide) (fun c_7 => ?_) (fun c_7 => ?_)
  · have f8 : r6.toInt ≤ 0 := z_lle rfl (show Int64.toInt 0 = 0 from by decide) c_7
    refine lv_iconst (v := 0) hx hb dX6_keeps_60 (by decide) ?_
    exact y_zret () hx hb hr hlocks hK hP hD hS hAe hQ rfl (Or.inl rfl) (by decide) dX6_keeps_61
  · have f8 : 0 < r6.toInt := z_lnle rfl (show Int64.toInt 0 = 0 from by decide) c_7
    refine lv_lload hx hb dX6_keeps_29 (lv_at hl 1 rfl) ?_
    refine lv_lload hx hb dX6_keeps_31 (lv_at hl 1 rfl) ?_
    refine lv_lmul hx hb dX6_keeps_33 ?_
    refine lv_topl (fun r9 _ => ?_)
    refine lv_iload hx hb dX6_keeps_34 (lv_at hl 5 rfl) ?_
    refine lv_i2l hx hb dX6_keeps_36 rfl ?_
    have f10 : -2147483648 ≤ p3.toInt ∧ p3.toInt < 2147483648 := z_rngI rfl
    refine lv_topl (fun r11 h12 => ?_)
    have f13 : r11.toInt = p3.toInt := z_i2lT h12 rfl
    refine lv_aload_n hx hb dX6_keeps_37 rfl (lv_at hl 2 rfl) ?_
    refine va_get (D := (dC, dI)) (ci := 6) (v := .long h0_n) (C := RX6) (T := TX6) (N := 11) hx hb hts hi6 hown hK hP 0 rfl rfl 0 (by decide) hk0 (fun _ h9 => h9) rfl dX6_keeps_38 ?_
    refine lv_aload_n hx hb dX6_keeps_41 rfl (lv_at hl 2 rfl) ?_
    refine va_get (D := (dC, dI)) (ci := 6) (v := .long h0_others) (C := RX6) (T := TX6) (N := 11) hx hb hts hi6 hown hK hP 0 rfl rfl 4 (by decide) hk1 (fun _ h9 => h9) rfl dX6_keeps_42 ?_
    refine lv_ladd hx hb dX6_keeps_45 ?_
    refine lv_topl (fun r14 _ => ?_)
    refine lv_lmul hx hb dX6_keeps_46 ?_
    refine lv_topl (fun r15 _ => ?_)
    refine lv_lload_n hx hb dX6_keeps_47 rfl (lv_at hl 4 rfl) ?_
    refine lv_lmul hx hb dX6_keeps_48 ?_
    refine lv_topl (fun r16 _ => ?_)
    refine lv_lload hx hb dX6_keeps_49 (lv_at hl 0 rfl) ?_
    refine lv_ldiv hx hb dX6_keeps_51 (z_nl0 rfl (by omega)) ?_
    refine lv_topl (fun r17 h18 => ?_)
    refine W.lcmp hx hb dX6_keeps_52 ?_
    refine lv_if_gt (tgt := 60) hx hb dX6_keeps_53 (by decide) (fun c_19 => ?_) (fun c_19 => ?_)
    · have f20 : r17.toInt < r9.toInt := z_lgt rfl rfl c_19
      refine lv_iconst (v := 0) hx hb dX6_keeps_60 (by decide) ?_
      exact y_zret () hx hb hr hlocks hK hP hD hS hAe hQ rfl (Or.inl rfl) (by decide) dX6_keeps_61
    · have f20 : r9.toInt ≤ r17.toInt := z_lngt rfl rfl c_19
      refine lv_iconst (v := 1) hx hb dX6_keeps_56 (by decide) ?_
      refine lv_goto (tgt := 61) hx hb dX6_keeps_57 (by decide) ?_
      exact y_zret () hx hb hr hlocks hK hP hD hS hAe hQ rfl (Or.inr rfl) (by decide) dX6_keeps_61
set_option maxHeartbeats 8000000 in
set_option maxRecDepth 100000 in
theorem k_X6_inTrueSpan (l : Launch) (dC : Nat → ClassId) (dI : Nat → Nat → Nat) (cB cI cJ cZ cP cQ : ClassId) (h0 : Nat) (sz : Nat) (p1 : Int64) (p2 : Int32) (h0_n : Int64) (h0_school : Int64) (h0_wage : Int64) (h0_gift : Int64) (h0_others : Int64) (h0_otherSchool : Int64) (h0_otherWage : Int64) (h0_otherGift : Int64) (h0_schoolSchool : Int64) (h0_schoolWage : Int64) (h0_wageWage : Int64) (e0 : 0 ≤ h0_n.toInt) (e1 : 0 ≤ h0_others.toInt) (e2 : h0_n.toInt ≤ 200) (e3 : h0_others.toInt ≤ 200) (e4 : h0_n.toInt + h0_others.toInt ≤ 200) (e5 : 0 ≤ h0_school.toInt) (e6 : h0_school.toInt ≤ 300 * h0_n.toInt) (e7 : 0 ≤ h0_otherSchool.toInt) (e8 : h0_otherSchool.toInt ≤ 300 * h0_others.toInt) (e9 : 0 ≤ h0_schoolSchool.toInt) (e10 : h0_schoolSchool.toInt ≤ 90000 * (h0_n.toInt + h0_others.toInt)) : Met l yX6_inTrueSpan wsX6_inTrueSpan ({ frames := 3, cells := 0, slots := 0, locals := 75 } : Room) (zPc [.ref h0, .long p1, .int p2] (dC, dI) (zT cB cI cJ cZ cP cQ) [(h0, .inr (6, [.long h0_n, .long h0_school, .long h0_wage, .long h0_gift, .long h0_others, .long h0_otherSchool, .long h0_otherWage, .long h0_otherGift, .long h0_schoolSchool, .long h0_schoolWage, .long h0_wageWage]))] sz [] []) (va_Qi (fun (r : Int32) (u : Unit) => (r = 0) ∨ (r = 1)) (zB (dC, dI) (zT cB cI cJ cZ cP cQ) (fun u : Unit => [(h0, .inr (6, [.long h0_n, .long h0_school, .long h0_wage, .long h0_gift, .long h0_others, .long h0_otherSchool, .long h0_otherWage, .long h0_otherGift, .long h0_schoolSchool, .long h0_schoolWage, .long h0_wageWage]))]) [(h0, .inr (6, [.long h0_n, .long h0_school, .long h0_wage, .long h0_gift, .long h0_others, .long h0_otherSchool, .long h0_otherWage, .long h0_otherGift, .long h0_schoolSchool, .long h0_schoolWage, .long h0_wageWage]))] sz) (va_A [(h0, .inr (6, [.long h0_n, .long h0_school, .long h0_wage, .long h0_gift, .long h0_others, .long h0_otherSchool, .long h0_otherWage, .long h0_otherGift, .long h0_schoolSchool, .long h0_schoolWage, .long h0_wageWage]))] sz)) 0 0 (va_A [(h0, .inr (6, [.long h0_n, .long h0_school, .long h0_wage, .long h0_gift, .long h0_others, .long h0_otherSchool, .long h0_otherWage, .long h0_otherGift, .long h0_schoolSchool, .long h0_schoolWage, .long h0_wageWage]))] sz) := by
  refine z_enter (cc := cX6_inTrueSpan) (maxL := 4) (ret := (some .boolean)) (by decide) rfl (Nat.le_of_ble_eq_true rfl) ?_
  intro p e s m below meth c A ls Q H locs hx hb hr hml hown hts hlocks hin hK hP hD hA hX hS hAe hQ hl
  have hown : s.vm.findClass RX6 = some m.cls := hown
  have hl : lv_has ls 4 [(0, .ref h0), (1, .long p1), (3, .int p2)] := hl
  refine lv_aload_n hx hb dX6_inTrueSpan_0 rfl (lv_at hl 0 rfl) ?_
  refine lv_lload_n hx hb dX6_inTrueSpan_1 rfl (lv_at hl 1 rfl) ?_
  refine lv_aload_n hx hb dX6_inTrueSpan_2 rfl (lv_at hl 0 rfl) ?_
  refine lv_lload_n hx hb dX6_inTrueSpan_3 rfl (lv_at hl 1 rfl) ?_
  refine y_finl (w' := fun (u1 : Unit) => [(h0, .inr (6, [.long h0_n, .long h0_school, .long h0_wage, .long h0_gift, .long h0_others, .long h0_otherSchool, .long h0_otherWage, .long h0_otherGift, .long h0_schoolSchool, .long h0_schoolWage, .long h0_wageWage]))]) (va_runV (As := [.long p1]) (rest := [.long p1, .ref h0]) ⟨hx, hb, hml, hown, hts⟩ (k_X6_leftWithin l dC dI cB cI cJ cZ cP cQ h0 H.size p1 h0_n h0_school h0_wage h0_gift h0_others h0_otherSchool h0_otherWage h0_otherGift h0_schoolSchool h0_schoolWage h0_wageWage (show 0 ≤ h0_n.toInt from by omega) (show 0 ≤ h0_others.toInt from by omega) (show h0_n.toInt ≤ 200 from by omega) (show h0_others.toInt ≤ 200 from by omega) (show h0_n.toInt + h0_others.toInt ≤ 200 from by omega) (show 0 ≤ h0_school.toInt from by omega) (show h0_school.toInt ≤ 300 * h0_n.toInt from by omega) (show 0 ≤ h0_otherSchool.toInt from by omega) (show h0_otherSchool.toInt ≤ 300 * h0_others.toInt from by omega) (show 0 ≤ h0_schoolSchool.toInt from by omega) (show h0_schoolSchool.toInt ≤ 90000 * (h0_n.toInt + h0_others.toInt) from by omega)) (cwV 1 hts gX6_inTrueSpan_X6_leftWithin rfl rfl rfl ⟨rfl, hd_X6_leftWithin⟩ ⟨Nat.le_of_ble_eq_true rfl, Nat.le_of_ble_eq_true rfl⟩) (z_pV (ci := 6) hK hP hD zX_nil [0] (by decide) rfl rfl 0 rfl) rfl rfl hl.1 rfl (lv_room (Nat.le_of_ble_eq_true rfl)) dX6_inTrueSpan_4 ⟨Nat.le_of_ble_eq_true rfl, Nat.le_of_ble_eq_true rfl⟩) hP hD hS hA [0] [] [0] rfl rfl (by decide) (by decide) (fun _ => rfl) (by decide) (fun r2 u1 H locs hp3 hP hD hS => ?_)
  have hP : va_P (dC, dI) vwCl [(h0, .inr (6, [.long h0_n, .long h0_school, .long h0_wage, .long h0_gift, .long h0_others, .long h0_otherSchool, .long h0_otherWage, .long h0_otherGift, .long h0_schoolSchool, .long h0_schoolWage, .long h0_wageWage]))] H := hP
  have hD : va_D A [(h0, .inr (6, [.long h0_n, .long h0_school, .long h0_wage, .long h0_gift, .long h0_others, .long h0_otherSchool, .long h0_otherWage, .long h0_otherGift, .long h0_schoolSchool, .long h0_schoolWage, .long h0_wageWage]))] := hD
  have hp3 : True := hp3
  refine lv_iload_n hx hb dX6_inTrueSpan_7 rfl (lv_at hl 2 rfl) ?_
  refine y_fini (w' := fun (u5 : Unit) => [(h0, .inr (6, [.long h0_n, .long h0_school, .long h0_wage, .long h0_gift, .long h0_others, .long h0_otherSchool, .long h0_otherWage, .long h0_otherGift, .long h0_schoolSchool, .long h0_schoolWage, .long h0_wageWage]))]) (va_runV (As := [.long p1, .long r2, .int p2]) (rest := []) ⟨hx, hb, hml, hown, hts⟩ (k_X6_keeps l dC dI cB cI cJ cZ cP cQ h0 H.size p1 r2 p2 h0_n h0_school h0_wage h0_gift h0_others h0_otherSchool h0_otherWage h0_otherGift h0_schoolSchool h0_schoolWage h0_wageWage (show 0 ≤ h0_n.toInt from by omega) (show 0 ≤ h0_others.toInt from by omega) (show h0_n.toInt ≤ 200 from by omega) (show h0_others.toInt ≤ 200 from by omega) (show h0_n.toInt + h0_others.toInt ≤ 200 from by omega) (show 0 ≤ h0_school.toInt from by omega) (show h0_school.toInt ≤ 300 * h0_n.toInt from by omega) (show 0 ≤ h0_otherSchool.toInt from by omega) (show h0_otherSchool.toInt ≤ 300 * h0_others.toInt from by omega) (show 0 ≤ h0_schoolSchool.toInt from by omega) (show h0_schoolSchool.toInt ≤ 90000 * (h0_n.toInt + h0_others.toInt) from by omega)) (cwV 3 hts gX6_inTrueSpan_X6_keeps rfl rfl rfl ⟨rfl, hd_X6_keeps⟩ ⟨Nat.le_of_ble_eq_true rfl, Nat.le_of_ble_eq_true rfl⟩) (z_pV (ci := 6) hK hP hD zX_nil [0] (by decide) rfl rfl 0 rfl) rfl rfl hl.1 rfl (lv_room (Nat.le_of_ble_eq_true rfl)) dX6_inTrueSpan_8 ⟨Nat.le_of_ble_eq_true rfl, Nat.le_of_ble_eq_true rfl⟩) hP hD hS hA [0] [] [0] rfl rfl (by decide) (by decide) (fun _ => rfl) (by decide) (fun r6 u5 H locs hp7 hP hD hS => ?_)
  have hP : va_P (dC, dI) vwCl [(h0, .inr (6, [.long h0_n, .long h0_school, .long h0_wage, .long h0_gift, .long h0_others, .long h0_otherSchool, .long h0_otherWage, .long h0_otherGift, .long h0_schoolSchool, .long h0_schoolWage, .long h0_wageWage]))] H := hP
  have hD : va_D A [(h0, .inr (6, [.long h0_n, .long h0_school, .long h0_wage, .long h0_gift, .long h0_others, .long h0_otherSchool, .long h0_otherWage, .long h0_otherGift, .long h0_schoolSchool, .long h0_schoolWage, .long h0_wageWage]))] := hD
  have hp7 : (r6 = 0) ∨ (r6 = 1) := hp7
  rcases hp7 with f8 | f9
  · obtain rfl := f8
    exact y_zret () hx hb hr hlocks hK hP hD hS hAe hQ rfl (Or.inl rfl) (by decide) dX6_inTrueSpan_11
  · obtain rfl := f9
    exact y_zret () hx hb hr hlocks hK hP hD hS hAe hQ rfl (Or.inr rfl) (by decide) dX6_inTrueSpan_11
set_option maxHeartbeats 8000000 in
set_option maxRecDepth 100000 in
theorem k_X6_inUsualSpan (l : Launch) (dC : Nat → ClassId) (dI : Nat → Nat → Nat) (cB cI cJ cZ cP cQ : ClassId) (h0 : Nat) (sz : Nat) (p1 : Int64) (p2 : Int32) (h0_n : Int64) (h0_school : Int64) (h0_wage : Int64) (h0_gift : Int64) (h0_others : Int64) (h0_otherSchool : Int64) (h0_otherWage : Int64) (h0_otherGift : Int64) (h0_schoolSchool : Int64) (h0_schoolWage : Int64) (h0_wageWage : Int64) (e0 : 0 ≤ h0_n.toInt) (e1 : 0 ≤ h0_others.toInt) (e2 : h0_n.toInt ≤ 200) (e3 : h0_others.toInt ≤ 200) (e4 : h0_n.toInt + h0_others.toInt ≤ 200) (e5 : 0 ≤ h0_school.toInt) (e6 : h0_school.toInt ≤ 300 * h0_n.toInt) (e7 : 0 ≤ h0_otherSchool.toInt) (e8 : h0_otherSchool.toInt ≤ 300 * h0_others.toInt) (e9 : 0 ≤ h0_schoolSchool.toInt) (e10 : h0_schoolSchool.toInt ≤ 90000 * (h0_n.toInt + h0_others.toInt)) : Met l yX6_inUsualSpan wsX6_inUsualSpan ({ frames := 3, cells := 0, slots := 0, locals := 75 } : Room) (zPc [.ref h0, .long p1, .int p2] (dC, dI) (zT cB cI cJ cZ cP cQ) [(h0, .inr (6, [.long h0_n, .long h0_school, .long h0_wage, .long h0_gift, .long h0_others, .long h0_otherSchool, .long h0_otherWage, .long h0_otherGift, .long h0_schoolSchool, .long h0_schoolWage, .long h0_wageWage]))] sz [] []) (va_Qi (fun (r : Int32) (u : Unit) => (r = 0) ∨ (r = 1)) (zB (dC, dI) (zT cB cI cJ cZ cP cQ) (fun u : Unit => [(h0, .inr (6, [.long h0_n, .long h0_school, .long h0_wage, .long h0_gift, .long h0_others, .long h0_otherSchool, .long h0_otherWage, .long h0_otherGift, .long h0_schoolSchool, .long h0_schoolWage, .long h0_wageWage]))]) [(h0, .inr (6, [.long h0_n, .long h0_school, .long h0_wage, .long h0_gift, .long h0_others, .long h0_otherSchool, .long h0_otherWage, .long h0_otherGift, .long h0_schoolSchool, .long h0_schoolWage, .long h0_wageWage]))] sz) (va_A [(h0, .inr (6, [.long h0_n, .long h0_school, .long h0_wage, .long h0_gift, .long h0_others, .long h0_otherSchool, .long h0_otherWage, .long h0_otherGift, .long h0_schoolSchool, .long h0_schoolWage, .long h0_wageWage]))] sz)) 0 0 (va_A [(h0, .inr (6, [.long h0_n, .long h0_school, .long h0_wage, .long h0_gift, .long h0_others, .long h0_otherSchool, .long h0_otherWage, .long h0_otherGift, .long h0_schoolSchool, .long h0_schoolWage, .long h0_wageWage]))] sz) := by
  refine z_enter (cc := cX6_inUsualSpan) (maxL := 4) (ret := (some .boolean)) (by decide) rfl (Nat.le_of_ble_eq_true rfl) ?_
  intro p e s m below meth c A ls Q H locs hx hb hr hml hown hts hlocks hin hK hP hD hA hX hS hAe hQ hl
  have hown : s.vm.findClass RX6 = some m.cls := hown
  have hk0 := hts (.constantLong RX6 69 1000) (List.mem_of_getElem? (i := 1) rfl)
  have hl : lv_has ls 4 [(0, .ref h0), (1, .long p1), (3, .int p2)] := hl
  refine lv_aload_n hx hb dX6_inUsualSpan_0 rfl (lv_at hl 0 rfl) ?_
  refine lv_lload_n hx hb dX6_inUsualSpan_1 rfl (lv_at hl 1 rfl) ?_
  refine lv_aload_n hx hb dX6_inUsualSpan_2 rfl (lv_at hl 0 rfl) ?_
  refine lv_aload_n hx hb dX6_inUsualSpan_3 rfl (lv_at hl 0 rfl) ?_
  refine y_finl (w' := fun (u1 : Unit) => [(h0, .inr (6, [.long h0_n, .long h0_school, .long h0_wage, .long h0_gift, .long h0_others, .long h0_otherSchool, .long h0_otherWage, .long h0_otherGift, .long h0_schoolSchool, .long h0_schoolWage, .long h0_wageWage]))]) (va_runV (As := []) (rest := [.ref h0, .long p1, .ref h0]) ⟨hx, hb, hml, hown, hts⟩ (k_X6_byMoved l dC dI cB cI cJ cZ cP cQ h0 H.size h0_n h0_school h0_wage h0_gift h0_others h0_otherSchool h0_otherWage h0_otherGift h0_schoolSchool h0_schoolWage h0_wageWage (show 0 ≤ h0_n.toInt from by omega) (show 0 ≤ h0_others.toInt from by omega) (show h0_n.toInt ≤ 200 from by omega) (show h0_others.toInt ≤ 200 from by omega) (show h0_n.toInt + h0_others.toInt ≤ 200 from by omega) (show 0 ≤ h0_school.toInt from by omega) (show h0_school.toInt ≤ 300 * h0_n.toInt from by omega) (show 0 ≤ h0_otherSchool.toInt from by omega) (show h0_otherSchool.toInt ≤ 300 * h0_others.toInt from by omega) (show 0 ≤ h0_schoolSchool.toInt from by omega) (show h0_schoolSchool.toInt ≤ 90000 * (h0_n.toInt + h0_others.toInt) from by omega)) (cwV 0 hts gX6_inUsualSpan_X6_byMoved rfl rfl rfl ⟨rfl, hd_X6_byMoved⟩ ⟨Nat.le_of_ble_eq_true rfl, Nat.le_of_ble_eq_true rfl⟩) (z_pV (ci := 6) hK hP hD zX_nil [0] (by decide) rfl rfl 0 rfl) rfl rfl hl.1 rfl (lv_room (Nat.le_of_ble_eq_true rfl)) dX6_inUsualSpan_4 ⟨Nat.le_of_ble_eq_true rfl, Nat.le_of_ble_eq_true rfl⟩) hP hD hS hA [0] [] [0] rfl rfl (by decide) (by decide) (fun _ => rfl) (by decide) (fun r2 u1 H locs hp3 hP hD hS => ?_)
  have hP : va_P (dC, dI) vwCl [(h0, .inr (6, [.long h0_n, .long h0_school, .long h0_wage, .long h0_gift, .long h0_others, .long h0_otherSchool, .long h0_otherWage, .long h0_otherGift, .long h0_schoolSchool, .long h0_schoolWage, .long h0_wageWage]))] H := hP
  have hD : va_D A [(h0, .inr (6, [.long h0_n, .long h0_school, .long h0_wage, .long h0_gift, .long h0_others, .long h0_otherSchool, .long h0_otherWage, .long h0_otherGift, .long h0_schoolSchool, .long h0_schoolWage, .long h0_wageWage]))] := hD
  have hp3 : (r2 = (-9000000000000000000) ∧ ((((h0_n.toInt ≤ 0 ∨ (0 < h0_n.toInt ∧ h0_others.toInt ≤ 0))) ∨ ((0 < h0_n.toInt ∧ 0 < h0_others.toInt))))) ∨ (True) := hp3
  rcases hp3 with f4 | f5
  · obtain ⟨rfl, f4⟩ := f4
    refine lv_ldc2 hx hb hown hk0 dX6_inUsualSpan_7 ?_
    refine lv_ldiv hx hb dX6_inUsualSpan_10 (by decide) ?_
    refine z_topl (y := (-9000000000000000)) (by decide +kernel) ?_
    refine y_finl (w' := fun (u6 : Unit) => [(h0, .inr (6, [.long h0_n, .long h0_school, .long h0_wage, .long h0_gift, .long h0_others, .long h0_otherSchool, .long h0_otherWage, .long h0_otherGift, .long h0_schoolSchool, .long h0_schoolWage, .long h0_wageWage]))]) (va_runV (As := [.long (-9000000000000000)]) (rest := [.long p1, .ref h0]) ⟨hx, hb, hml, hown, hts⟩ (k_X6_leftWithin l dC dI cB cI cJ cZ cP cQ h0 H.size (-9000000000000000) h0_n h0_school h0_wage h0_gift h0_others h0_otherSchool h0_otherWage h0_otherGift h0_schoolSchool h0_schoolWage h0_wageWage (show 0 ≤ h0_n.toInt from by omega) (show 0 ≤ h0_others.toInt from by omega) (show h0_n.toInt ≤ 200 from by omega) (show h0_others.toInt ≤ 200 from by omega) (show h0_n.toInt + h0_others.toInt ≤ 200 from by omega) (show 0 ≤ h0_school.toInt from by omega) (show h0_school.toInt ≤ 300 * h0_n.toInt from by omega) (show 0 ≤ h0_otherSchool.toInt from by omega) (show h0_otherSchool.toInt ≤ 300 * h0_others.toInt from by omega) (show 0 ≤ h0_schoolSchool.toInt from by omega) (show h0_schoolSchool.toInt ≤ 90000 * (h0_n.toInt + h0_others.toInt) from by omega)) (cwV 1 hts gX6_inUsualSpan_X6_leftWithin rfl rfl rfl ⟨rfl, hd_X6_leftWithin⟩ ⟨Nat.le_of_ble_eq_true rfl, Nat.le_of_ble_eq_true rfl⟩) (z_pV (ci := 6) hK hP hD zX_nil [0] (by decide) rfl rfl 0 rfl) rfl rfl hl.1 rfl (lv_room (Nat.le_of_ble_eq_true rfl)) dX6_inUsualSpan_11 ⟨Nat.le_of_ble_eq_true rfl, Nat.le_of_ble_eq_true rfl⟩) hP hD hS hA [0] [] [0] rfl rfl (by decide) (by decide) (fun _ => rfl) (by decide) (fun r7 u6 H locs hp8 hP hD hS => ?_)
    have hP : va_P (dC, dI) vwCl [(h0, .inr (6, [.long h0_n, .long h0_school, .long h0_wage, .long h0_gift, .long h0_others, .long h0_otherSchool, .long h0_otherWage, .long h0_otherGift, .long h0_schoolSchool, .long h0_schoolWage, .long h0_wageWage]))] H := hP
    have hD : va_D A [(h0, .inr (6, [.long h0_n, .long h0_school, .long h0_wage, .long h0_gift, .long h0_others, .long h0_otherSchool, .long h0_otherWage, .long h0_otherGift, .long h0_schoolSchool, .long h0_schoolWage, .long h0_wageWage]))] := hD
    have hp8 : True := hp8
    refine lv_iload_n hx hb dX6_inUsualSpan_14 rfl (lv_at hl 2 rfl) ?_
    refine y_fini (w' := fun (u10 : Unit) => [(h0, .inr (6, [.long h0_n, .long h0_school, .long h0_wage, .long h0_gift, .long h0_others, .long h0_otherSchool, .long h0_otherWage, .long h0_otherGift, .long h0_schoolSchool, .long h0_schoolWage, .long h0_wageWage]))]) (va_runV (As := [.long p1, .long r7, .int p2]) (rest := []) ⟨hx, hb, hml, hown, hts⟩ (k_X6_keeps l dC dI cB cI cJ cZ cP cQ h0 H.size p1 r7 p2 h0_n h0_school h0_wage h0_gift h0_others h0_otherSchool h0_otherWage h0_otherGift h0_schoolSchool h0_schoolWage h0_wageWage (show 0 ≤ h0_n.toInt from by omega) (show 0 ≤ h0_others.toInt from by omega) (show h0_n.toInt ≤ 200 from by omega) (show h0_others.toInt ≤ 200 from by omega) (show h0_n.toInt + h0_others.toInt ≤ 200 from by omega) (show 0 ≤ h0_school.toInt from by omega) (show h0_school.toInt ≤ 300 * h0_n.toInt from by omega) (show 0 ≤ h0_otherSchool.toInt from by omega) (show h0_otherSchool.toInt ≤ 300 * h0_others.toInt from by omega) (show 0 ≤ h0_schoolSchool.toInt from by omega) (show h0_schoolSchool.toInt ≤ 90000 * (h0_n.toInt + h0_others.toInt) from by omega)) (cwV 3 hts gX6_inUsualSpan_X6_keeps rfl rfl rfl ⟨rfl, hd_X6_keeps⟩ ⟨Nat.le_of_ble_eq_true rfl, Nat.le_of_ble_eq_true rfl⟩) (z_pV (ci := 6) hK hP hD zX_nil [0] (by decide) rfl rfl 0 rfl) rfl rfl hl.1 rfl (lv_room (Nat.le_of_ble_eq_true rfl)) dX6_inUsualSpan_15 ⟨Nat.le_of_ble_eq_true rfl, Nat.le_of_ble_eq_true rfl⟩) hP hD hS hA [0] [] [0] rfl rfl (by decide) (by decide) (fun _ => rfl) (by decide) (fun r11 u10 H locs hp12 hP hD hS => ?_)
    have hP : va_P (dC, dI) vwCl [(h0, .inr (6, [.long h0_n, .long h0_school, .long h0_wage, .long h0_gift, .long h0_others, .long h0_otherSchool, .long h0_otherWage, .long h0_otherGift, .long h0_schoolSchool, .long h0_schoolWage, .long h0_wageWage]))] H := hP
    have hD : va_D A [(h0, .inr (6, [.long h0_n, .long h0_school, .long h0_wage, .long h0_gift, .long h0_others, .long h0_otherSchool, .long h0_otherWage, .long h0_otherGift, .long h0_schoolSchool, .long h0_schoolWage, .long h0_wageWage]))] := hD
    have hp12 : (r11 = 0) ∨ (r11 = 1) := hp12
    rcases hp12 with f13 | f14
    · obtain rfl := f13
      exact y_zret () hx hb hr hlocks hK hP hD hS hAe hQ rfl (Or.inl rfl) (by decide) dX6_inUsualSpan_18
    · obtain rfl := f14
      exact y_zret () hx hb hr hlocks hK hP hD hS hAe hQ rfl (Or.inr rfl) (by decide) dX6_inUsualSpan_18
  · refine lv_ldc2 hx hb hown hk0 dX6_inUsualSpan_7 ?_
    refine lv_ldiv hx hb dX6_inUsualSpan_10 (by decide) ?_
    refine lv_topl (fun r15 h16 => ?_)
    refine y_finl (w' := fun (u17 : Unit) => [(h0, .inr (6, [.long h0_n, .long h0_school, .long h0_wage, .long h0_gift, .long h0_others, .long h0_otherSchool, .long h0_otherWage, .long h0_otherGift, .long h0_schoolSchool, .long h0_schoolWage, .long h0_wageWage]))]) (va_runV (As := [.long r15]) (rest := [.long p1, .ref h0]) ⟨hx, hb, hml, hown, hts⟩ (k_X6_leftWithin l dC dI cB cI cJ cZ cP cQ h0 H.size r15 h0_n h0_school h0_wage h0_gift h0_others h0_otherSchool h0_otherWage h0_otherGift h0_schoolSchool h0_schoolWage h0_wageWage (show 0 ≤ h0_n.toInt from by omega) (show 0 ≤ h0_others.toInt from by omega) (show h0_n.toInt ≤ 200 from by omega) (show h0_others.toInt ≤ 200 from by omega) (show h0_n.toInt + h0_others.toInt ≤ 200 from by omega) (show 0 ≤ h0_school.toInt from by omega) (show h0_school.toInt ≤ 300 * h0_n.toInt from by omega) (show 0 ≤ h0_otherSchool.toInt from by omega) (show h0_otherSchool.toInt ≤ 300 * h0_others.toInt from by omega) (show 0 ≤ h0_schoolSchool.toInt from by omega) (show h0_schoolSchool.toInt ≤ 90000 * (h0_n.toInt + h0_others.toInt) from by omega)) (cwV 1 hts gX6_inUsualSpan_X6_leftWithin rfl rfl rfl ⟨rfl, hd_X6_leftWithin⟩ ⟨Nat.le_of_ble_eq_true rfl, Nat.le_of_ble_eq_true rfl⟩) (z_pV (ci := 6) hK hP hD zX_nil [0] (by decide) rfl rfl 0 rfl) rfl rfl hl.1 rfl (lv_room (Nat.le_of_ble_eq_true rfl)) dX6_inUsualSpan_11 ⟨Nat.le_of_ble_eq_true rfl, Nat.le_of_ble_eq_true rfl⟩) hP hD hS hA [0] [] [0] rfl rfl (by decide) (by decide) (fun _ => rfl) (by decide) (fun r18 u17 H locs hp19 hP hD hS => ?_)
    have hP : va_P (dC, dI) vwCl [(h0, .inr (6, [.long h0_n, .long h0_school, .long h0_wage, .long h0_gift, .long h0_others, .long h0_otherSchool, .long h0_otherWage, .long h0_otherGift, .long h0_schoolSchool, .long h0_schoolWage, .long h0_wageWage]))] H := hP
    have hD : va_D A [(h0, .inr (6, [.long h0_n, .long h0_school, .long h0_wage, .long h0_gift, .long h0_others, .long h0_otherSchool, .long h0_otherWage, .long h0_otherGift, .long h0_schoolSchool, .long h0_schoolWage, .long h0_wageWage]))] := hD
    have hp19 : True := hp19
    refine lv_iload_n hx hb dX6_inUsualSpan_14 rfl (lv_at hl 2 rfl) ?_
    refine y_fini (w' := fun (u21 : Unit) => [(h0, .inr (6, [.long h0_n, .long h0_school, .long h0_wage, .long h0_gift, .long h0_others, .long h0_otherSchool, .long h0_otherWage, .long h0_otherGift, .long h0_schoolSchool, .long h0_schoolWage, .long h0_wageWage]))]) (va_runV (As := [.long p1, .long r18, .int p2]) (rest := []) ⟨hx, hb, hml, hown, hts⟩ (k_X6_keeps l dC dI cB cI cJ cZ cP cQ h0 H.size p1 r18 p2 h0_n h0_school h0_wage h0_gift h0_others h0_otherSchool h0_otherWage h0_otherGift h0_schoolSchool h0_schoolWage h0_wageWage (show 0 ≤ h0_n.toInt from by omega) (show 0 ≤ h0_others.toInt from by omega) (show h0_n.toInt ≤ 200 from by omega) (show h0_others.toInt ≤ 200 from by omega) (show h0_n.toInt + h0_others.toInt ≤ 200 from by omega) (show 0 ≤ h0_school.toInt from by omega) (show h0_school.toInt ≤ 300 * h0_n.toInt from by omega) (show 0 ≤ h0_otherSchool.toInt from by omega) (show h0_otherSchool.toInt ≤ 300 * h0_others.toInt from by omega) (show 0 ≤ h0_schoolSchool.toInt from by omega) (show h0_schoolSchool.toInt ≤ 90000 * (h0_n.toInt + h0_others.toInt) from by omega)) (cwV 3 hts gX6_inUsualSpan_X6_keeps rfl rfl rfl ⟨rfl, hd_X6_keeps⟩ ⟨Nat.le_of_ble_eq_true rfl, Nat.le_of_ble_eq_true rfl⟩) (z_pV (ci := 6) hK hP hD zX_nil [0] (by decide) rfl rfl 0 rfl) rfl rfl hl.1 rfl (lv_room (Nat.le_of_ble_eq_true rfl)) dX6_inUsualSpan_15 ⟨Nat.le_of_ble_eq_true rfl, Nat.le_of_ble_eq_true rfl⟩) hP hD hS hA [0] [] [0] rfl rfl (by decide) (by decide) (fun _ => rfl) (by decide) (fun r22 u21 H locs hp23 hP hD hS => ?_)
    have hP : va_P (dC, dI) vwCl [(h0, .inr (6, [.long h0_n, .long h0_school, .long h0_wage, .long h0_gift, .long h0_others, .long h0_otherSchool, .long h0_otherWage, .long h0_otherGift, .long h0_schoolSchool, .long h0_schoolWage, .long h0_wageWage]))] H := hP
    have hD : va_D A [(h0, .inr (6, [.long h0_n, .long h0_school, .long h0_wage, .long h0_gift, .long h0_others, .long h0_otherSchool, .long h0_otherWage, .long h0_otherGift, .long h0_schoolSchool, .long h0_schoolWage, .long h0_wageWage]))] := hD
    have hp23 : (r22 = 0) ∨ (r22 = 1) := hp23
    rcases hp23 with f24 | f25
    · obtain rfl := f24
      exact y_zret () hx hb hr hlocks hK hP hD hS hAe hQ rfl (Or.inl rfl) (by decide) dX6_inUsualSpan_18
    · obtain rfl := f25
      exact y_zret () hx hb hr hlocks hK hP hD hS hAe hQ rfl (Or.inr rfl) (by decide) dX6_inUsualSpan_18
set_option maxHeartbeats 8000000 in
set_option maxRecDepth 100000 in
theorem k_X6_meanGap (l : Launch) (dC : Nat → ClassId) (dI : Nat → Nat → Nat) (cB cI cJ cZ cP cQ : ClassId) (h0 : Nat) (sz : Nat) (p1 : Int64) (p2 : Int64) (h0_n : Int64) (h0_school : Int64) (h0_wage : Int64) (h0_gift : Int64) (h0_others : Int64) (h0_otherSchool : Int64) (h0_otherWage : Int64) (h0_otherGift : Int64) (h0_schoolSchool : Int64) (h0_schoolWage : Int64) (h0_wageWage : Int64) (e0 : 0 ≤ h0_n.toInt) (e1 : 0 ≤ h0_others.toInt) (e2 : h0_n.toInt ≤ 200) (e3 : h0_others.toInt ≤ 200) (e4 : h0_n.toInt + h0_others.toInt ≤ 200) (e5 : 0 ≤ h0_school.toInt) (e6 : h0_school.toInt ≤ 300 * h0_n.toInt) (e7 : 0 ≤ h0_otherSchool.toInt) (e8 : h0_otherSchool.toInt ≤ 300 * h0_others.toInt) (e9 : 0 ≤ h0_schoolSchool.toInt) (e10 : h0_schoolSchool.toInt ≤ 90000 * (h0_n.toInt + h0_others.toInt)) : Met l yX6_meanGap wsX6_meanGap ({ frames := 1, cells := 0, slots := 0, locals := 24 } : Room) (zPc [.ref h0, .long p1, .long p2] (dC, dI) (zT cB cI cJ cZ cP cQ) [(h0, .inr (6, [.long h0_n, .long h0_school, .long h0_wage, .long h0_gift, .long h0_others, .long h0_otherSchool, .long h0_otherWage, .long h0_otherGift, .long h0_schoolSchool, .long h0_schoolWage, .long h0_wageWage]))] sz [(RX6, 79, yX8_thousandths, "MonthPush")] []) (va_Ql (fun (r : Int64) (u : Unit) => (r = (-9000000000000000000) ∧ (((h0_n.toInt ≤ 0 ∨ (0 < h0_n.toInt ∧ h0_others.toInt ≤ 0))) ∨ ((0 < h0_n.toInt ∧ 0 < h0_others.toInt)))) ∨ (True)) (zB (dC, dI) (zT cB cI cJ cZ cP cQ) (fun u : Unit => [(h0, .inr (6, [.long h0_n, .long h0_school, .long h0_wage, .long h0_gift, .long h0_others, .long h0_otherSchool, .long h0_otherWage, .long h0_otherGift, .long h0_schoolSchool, .long h0_schoolWage, .long h0_wageWage]))]) [(h0, .inr (6, [.long h0_n, .long h0_school, .long h0_wage, .long h0_gift, .long h0_others, .long h0_otherSchool, .long h0_otherWage, .long h0_otherGift, .long h0_schoolSchool, .long h0_schoolWage, .long h0_wageWage]))] sz) (va_A [(h0, .inr (6, [.long h0_n, .long h0_school, .long h0_wage, .long h0_gift, .long h0_others, .long h0_otherSchool, .long h0_otherWage, .long h0_otherGift, .long h0_schoolSchool, .long h0_schoolWage, .long h0_wageWage]))] sz)) 0 0 (va_A [(h0, .inr (6, [.long h0_n, .long h0_school, .long h0_wage, .long h0_gift, .long h0_others, .long h0_otherSchool, .long h0_otherWage, .long h0_otherGift, .long h0_schoolSchool, .long h0_schoolWage, .long h0_wageWage]))] sz) := by
  refine z_enter (cc := cX6_meanGap) (maxL := 5) (ret := (some .long)) (by decide) rfl (Nat.le_of_ble_eq_true rfl) ?_
  intro p e s m below meth c A ls Q H locs hx hb hr hml hown hts hlocks hin hK hP hD hA hX hS hAe hQ hl
  have hown : s.vm.findClass RX6 = some m.cls := hown
  have hi6 : ∀ w ∈ wsX60, w ∈ wsX6_meanGap := fun w h => List.mem_cons_of_mem _ (List.mem_append_right _ h)
  have hk0 := hts (.constantLong RX6 64 (-9000000000000000000)) (List.mem_of_getElem? (i := 3) rfl)
  have hk1 := hts (.fieldLink RX6 9 "MonthPush$Split" "n" "J") (List.mem_of_getElem? (i := 1) rfl)
  have hk2 := hts (.fieldLink RX6 24 "MonthPush$Split" "others" "J") (List.mem_of_getElem? (i := 2) rfl)
  have hk3 := hts (.initialized RX8) (List.mem_of_getElem? (i := 14) rfl)
  have hk4 := hts (.static yX8_thousandths) (List.mem_of_getElem? (i := 13) rfl)
  have hl : lv_has ls 5 [(0, .ref h0), (1, .long p1), (3, .long p2)] := hl
  refine lv_aload_n hx hb dX6_meanGap_0 rfl (lv_at hl 0 rfl) ?_
  refine y_fini (w' := fun (u1 : Unit) => [(h0, .inr (6, [.long h0_n, .long h0_school, .long h0_wage, .long h0_gift, .long h0_others, .long h0_otherSchool, .long h0_otherWage, .long h0_otherGift, .long h0_schoolSchool, .long h0_schoolWage, .long h0_wageWage]))]) (va_runV (As := []) (rest := []) ⟨hx, hb, hml, hown, hts⟩ (k_X6_hasBoth l dC dI cB cI cJ cZ cP cQ h0 H.size h0_n h0_school h0_wage h0_gift h0_others h0_otherSchool h0_otherWage h0_otherGift h0_schoolSchool h0_schoolWage h0_wageWage (show 0 ≤ h0_n.toInt from by omega) (show 0 ≤ h0_others.toInt from by omega) (show h0_n.toInt ≤ 200 from by omega) (show h0_others.toInt ≤ 200 from by omega) (show h0_n.toInt + h0_others.toInt ≤ 200 from by omega) (show 0 ≤ h0_school.toInt from by omega) (show h0_school.toInt ≤ 300 * h0_n.toInt from by omega) (show 0 ≤ h0_otherSchool.toInt from by omega) (show h0_otherSchool.toInt ≤ 300 * h0_others.toInt from by omega) (show 0 ≤ h0_schoolSchool.toInt from by omega) (show h0_schoolSchool.toInt ≤ 90000 * (h0_n.toInt + h0_others.toInt) from by omega)) (cwV 0 hts gX6_meanGap_X6_hasBoth rfl rfl rfl ⟨rfl, hd_X6_hasBoth⟩ ⟨Nat.le_of_ble_eq_true rfl, Nat.le_of_ble_eq_true rfl⟩) (z_pV (ci := 6) hK hP hD zX_nil [0] (by decide) rfl rfl 0 rfl) rfl rfl hl.1 rfl (lv_room (Nat.le_of_ble_eq_true rfl)) dX6_meanGap_1 ⟨Nat.le_of_ble_eq_true rfl, Nat.le_of_ble_eq_true rfl⟩) hP hD hS hA [0] [] [0] rfl rfl (by decide) (by decide) (fun _ => rfl) (by decide) (fun r2 u1 H locs hp3 hP hD hS => ?_)
  have hP : va_P (dC, dI) vwCl [(h0, .inr (6, [.long h0_n, .long h0_school, .long h0_wage, .long h0_gift, .long h0_others, .long h0_otherSchool, .long h0_otherWage, .long h0_otherGift, .long h0_schoolSchool, .long h0_schoolWage, .long h0_wageWage]))] H := hP
  have hD : va_D A [(h0, .inr (6, [.long h0_n, .long h0_school, .long h0_wage, .long h0_gift, .long h0_others, .long h0_otherSchool, .long h0_otherWage, .long h0_otherGift, .long h0_schoolSchool, .long h0_schoolWage, .long h0_wageWage]))] := hD
  have hp3 : (r2 = 0 ∧ (h0_n.toInt ≤ 0 ∨ (0 < h0_n.toInt ∧ h0_others.toInt ≤ 0))) ∨ (r2 = 1 ∧ 0 < h0_n.toInt ∧ 0 < h0_others.toInt) := hp3
  rcases hp3 with f4 | f5
  · obtain ⟨rfl, f4⟩ := f4
    refine lv_if_eq (tgt := 28) hx hb dX6_meanGap_4 (by decide) (fun _ => ?_) (fun c => absurd (by decide) c)
    refine lv_ldc2 hx hb hown hk0 dX6_meanGap_28 ?_
    exact y_lret () hx hb hr hlocks hK hP hD hS hAe hQ rfl (Or.inl ⟨rfl, (Or.inl f4)⟩) dX6_meanGap_31
  · obtain ⟨rfl, f5⟩ := f5
    refine lv_if_eq (tgt := 28) hx hb dX6_meanGap_4 (by decide) (fun c => absurd c (by decide)) (fun _ => ?_)
    refine lv_aload_n hx hb dX6_meanGap_7 rfl (lv_at hl 0 rfl) ?_
    refine lv_lload_n hx hb dX6_meanGap_8 rfl (lv_at hl 1 rfl) ?_
    refine lv_lload_n hx hb dX6_meanGap_9 rfl (lv_at hl 2 rfl) ?_
    refine y_finl (w' := fun (u6 : Unit) => [(h0, .inr (6, [.long h0_n, .long h0_school, .long h0_wage, .long h0_gift, .long h0_others, .long h0_otherSchool, .long h0_otherWage, .long h0_otherGift, .long h0_schoolSchool, .long h0_schoolWage, .long h0_wageWage]))]) (va_runV (As := [.long p1, .long p2]) (rest := []) ⟨hx, hb, hml, hown, hts⟩ (k_X6_gapOf l dC dI cB cI cJ cZ cP cQ h0 H.size p1 p2 h0_n h0_school h0_wage h0_gift h0_others h0_otherSchool h0_otherWage h0_otherGift h0_schoolSchool h0_schoolWage h0_wageWage (show 0 ≤ h0_n.toInt from by omega) (show 0 ≤ h0_others.toInt from by omega) (show h0_n.toInt ≤ 200 from by omega) (show h0_others.toInt ≤ 200 from by omega) (show h0_n.toInt + h0_others.toInt ≤ 200 from by omega) (show 0 ≤ h0_school.toInt from by omega) (show h0_school.toInt ≤ 300 * h0_n.toInt from by omega) (show 0 ≤ h0_otherSchool.toInt from by omega) (show h0_otherSchool.toInt ≤ 300 * h0_others.toInt from by omega) (show 0 ≤ h0_schoolSchool.toInt from by omega) (show h0_schoolSchool.toInt ≤ 90000 * (h0_n.toInt + h0_others.toInt) from by omega)) (cwV 2 hts gX6_meanGap_X6_gapOf rfl rfl rfl ⟨rfl, hd_X6_gapOf⟩ ⟨Nat.le_of_ble_eq_true rfl, Nat.le_of_ble_eq_true rfl⟩) (z_pV (ci := 6) hK hP hD zX_nil [0] (by decide) rfl rfl 0 rfl) rfl rfl hl.1 rfl (lv_room (Nat.le_of_ble_eq_true rfl)) dX6_meanGap_10 ⟨Nat.le_of_ble_eq_true rfl, Nat.le_of_ble_eq_true rfl⟩) hP hD hS hA [0] [] [0] rfl rfl (by decide) (by decide) (fun _ => rfl) (by decide) (fun r7 u6 H locs hp8 hP hD hS => ?_)
    have hP : va_P (dC, dI) vwCl [(h0, .inr (6, [.long h0_n, .long h0_school, .long h0_wage, .long h0_gift, .long h0_others, .long h0_otherSchool, .long h0_otherWage, .long h0_otherGift, .long h0_schoolSchool, .long h0_schoolWage, .long h0_wageWage]))] H := hP
    have hD : va_D A [(h0, .inr (6, [.long h0_n, .long h0_school, .long h0_wage, .long h0_gift, .long h0_others, .long h0_otherSchool, .long h0_otherWage, .long h0_otherGift, .long h0_schoolSchool, .long h0_schoolWage, .long h0_wageWage]))] := hD
    have hp8 : True := hp8
    refine lv_aload_n hx hb dX6_meanGap_13 rfl (lv_at hl 0 rfl) ?_
    refine va_get (D := (dC, dI)) (ci := 6) (v := .long h0_n) (C := RX6) (T := TX6) (N := 11) hx hb hts hi6 hown hK hP 0 rfl rfl 0 (by decide) hk1 (fun _ h9 => h9) rfl dX6_meanGap_14 ?_
    refine lv_aload_n hx hb dX6_meanGap_17 rfl (lv_at hl 0 rfl) ?_
    refine va_get (D := (dC, dI)) (ci := 6) (v := .long h0_others) (C := RX6) (T := TX6) (N := 11) hx hb hts hi6 hown hK hP 0 rfl rfl 4 (by decide) hk2 (fun _ h9 => h9) rfl dX6_meanGap_18 ?_
    refine lv_lmul hx hb dX6_meanGap_21 ?_
    refine lv_topl (fun r10 _ => ?_)
    refine y_finl (w' := fun (u11 : Unit) => [(h0, .inr (6, [.long h0_n, .long h0_school, .long h0_wage, .long h0_gift, .long h0_others, .long h0_otherSchool, .long h0_otherWage, .long h0_otherGift, .long h0_schoolSchool, .long h0_schoolWage, .long h0_wageWage]))]) (va_runSN (As := [.long r7, .long r10]) (rest := []) ⟨hx, hb, hml, hown, hts⟩ (k_X8_thousandths l dC dI cB cI cJ cZ cP cQ H.size r7 r10) ⟨va_cnB 2 hts gX6_meanGap_X8_thousandths_n79 rfl rfl rfl (hX.1 (RX6, 79, yX8_thousandths, "MonthPush") (List.mem_of_getElem? (i := 0) rfl)) hk3 hd_X8_thousandths ⟨Nat.le_of_ble_eq_true rfl, Nat.le_of_ble_eq_true rfl⟩, hk4, trivial⟩ (z_pS hK hP hD zX_nil [] (by decide) rfl) rfl rfl hl.1 rfl (lv_room (Nat.le_of_ble_eq_true rfl)) dX6_meanGap_22 ⟨Nat.le_of_ble_eq_true rfl, Nat.le_of_ble_eq_true rfl⟩) hP hD hS hA [] [0] [0] rfl rfl (by decide) (by decide) (fun _ => rfl) (by decide) (fun r12 u11 H locs hp13 hP hD hS => ?_)
    have hP : va_P (dC, dI) vwCl [(h0, .inr (6, [.long h0_n, .long h0_school, .long h0_wage, .long h0_gift, .long h0_others, .long h0_otherSchool, .long h0_otherWage, .long h0_otherGift, .long h0_schoolSchool, .long h0_schoolWage, .long h0_wageWage]))] H := hP
    have hD : va_D A [(h0, .inr (6, [.long h0_n, .long h0_school, .long h0_wage, .long h0_gift, .long h0_others, .long h0_otherSchool, .long h0_otherWage, .long h0_otherGift, .long h0_schoolSchool, .long h0_schoolWage, .long h0_wageWage]))] := hD
    have hp13 : (True) ∨ (r12 = (-9000000000000000000) ∧ r10.toInt = 0) := hp13
    rcases hp13 with f14 | f15
    · refine lv_goto (tgt := 31) hx hb dX6_meanGap_25 (by decide) ?_
      exact y_lret () hx hb hr hlocks hK hP hD hS hAe hQ rfl (Or.inr trivial) dX6_meanGap_31
    · obtain ⟨rfl, f15⟩ := f15
      refine lv_goto (tgt := 31) hx hb dX6_meanGap_25 (by decide) ?_
      exact y_lret () hx hb hr hlocks hK hP hD hS hAe hQ rfl (Or.inl ⟨rfl, (Or.inr f5)⟩) dX6_meanGap_31
set_option maxHeartbeats 8000000 in
set_option maxRecDepth 100000 in
theorem k_X6_spanBy (l : Launch) (dC : Nat → ClassId) (dI : Nat → Nat → Nat) (cB cI cJ cZ cP cQ : ClassId) (h0 : Nat) (sz : Nat) (p1 : Int32) (p2 : Int32) (p3 : Int32) (h0_n : Int64) (h0_school : Int64) (h0_wage : Int64) (h0_gift : Int64) (h0_others : Int64) (h0_otherSchool : Int64) (h0_otherWage : Int64) (h0_otherGift : Int64) (h0_schoolSchool : Int64) (h0_schoolWage : Int64) (h0_wageWage : Int64) (e0 : 0 ≤ h0_n.toInt) (e1 : 0 ≤ h0_others.toInt) (e2 : h0_n.toInt ≤ 200) (e3 : h0_others.toInt ≤ 200) (e4 : h0_n.toInt + h0_others.toInt ≤ 200) (e5 : 0 ≤ h0_school.toInt) (e6 : h0_school.toInt ≤ 300 * h0_n.toInt) (e7 : 0 ≤ h0_otherSchool.toInt) (e8 : h0_otherSchool.toInt ≤ 300 * h0_others.toInt) (e9 : 0 ≤ h0_schoolSchool.toInt) (e10 : h0_schoolSchool.toInt ≤ 90000 * (h0_n.toInt + h0_others.toInt)) (e11 : 0 ≤ p3.toInt) (e12 : p3.toInt ≤ 1) : Met l yX6_spanBy wsX6_spanBy ({ frames := 4, cells := 0, slots := 0, locals := 98 } : Room) (zPc [.ref h0, .int p1, .int p2, .int p3] (dC, dI) (zT cB cI cJ cZ cP cQ) [(h0, .inr (6, [.long h0_n, .long h0_school, .long h0_wage, .long h0_gift, .long h0_others, .long h0_otherSchool, .long h0_otherWage, .long h0_otherGift, .long h0_schoolSchool, .long h0_schoolWage, .long h0_wageWage]))] sz [] []) (va_Qi (fun (r : Int32) (u : Unit) => (True) ∨ (r = 0 ∧ ((p2.toInt < 0 ∨ 2 < p2.toInt) ∨ (p2.toInt < 0 ∨ 2 < p2.toInt))) ∨ (r = 1 ∧ ((p2.toInt < 0 ∨ 2 < p2.toInt)))) (zB (dC, dI) (zT cB cI cJ cZ cP cQ) (fun u : Unit => [(h0, .inr (6, [.long h0_n, .long h0_school, .long h0_wage, .long h0_gift, .long h0_others, .long h0_otherSchool, .long h0_otherWage, .long h0_otherGift, .long h0_schoolSchool, .long h0_schoolWage, .long h0_wageWage]))]) [(h0, .inr (6, [.long h0_n, .long h0_school, .long h0_wage, .long h0_gift, .long h0_others, .long h0_otherSchool, .long h0_otherWage, .long h0_otherGift, .long h0_schoolSchool, .long h0_schoolWage, .long h0_wageWage]))] sz) (va_A [(h0, .inr (6, [.long h0_n, .long h0_school, .long h0_wage, .long h0_gift, .long h0_others, .long h0_otherSchool, .long h0_otherWage, .long h0_otherGift, .long h0_schoolSchool, .long h0_schoolWage, .long h0_wageWage]))] sz)) 0 0 (va_A [(h0, .inr (6, [.long h0_n, .long h0_school, .long h0_wage, .long h0_gift, .long h0_others, .long h0_otherSchool, .long h0_otherWage, .long h0_otherGift, .long h0_schoolSchool, .long h0_schoolWage, .long h0_wageWage]))] sz) := by
  refine z_enter (cc := cX6_spanBy) (maxL := 8) (ret := (some .int)) (by decide) rfl (Nat.le_of_ble_eq_true rfl) ?_
  intro p e s m below meth c A ls Q H locs hx hb hr hml hown hts hlocks hin hK hP hD hA hX hS hAe hQ hl
  have hown : s.vm.findClass RX6 = some m.cls := hown
  have hk0 := hts (.constant RX6 110 (-2000000000)) (List.mem_of_getElem? (i := 1) rfl)
  have hl : lv_has ls 8 [(0, .ref h0), (1, .int p1), (2, .int p2), (3, .int p3)] := hl
  refine lv_iconst (v := 0) hx hb dX6_spanBy_0 (by decide) ?_
  refine lv_istore (lv' := [(4, .int 0), (0, .ref h0), (1, .int p1), (2, .int p2), (3, .int p3)]) hx hb dX6_spanBy_1 hl (by decide) rfl (fun ls hl => ?_)
  refine lv_ldc hx hb hown hk0 dX6_spanBy_3 ?_
  refine lv_istore (lv' := [(5, .int (-2000000000)), (4, .int 0), (0, .ref h0), (1, .int p1), (2, .int p2), (3, .int p3)]) hx hb dX6_spanBy_5 hl (by decide) rfl (fun ls hl => ?_)
  refine lv_ldc hx hb hown hk0 dX6_spanBy_7 ?_
  refine lv_istore (lv' := [(6, .int (-2000000000)), (5, .int (-2000000000)), (4, .int 0), (0, .ref h0), (1, .int p1), (2, .int p2), (3, .int p3)]) hx hb dX6_spanBy_9 hl (by decide) rfl (fun ls hl => ?_)
  refine lv_bipush (v := (-99)) hx hb dX6_spanBy_11 (by decide) ?_
  refine lv_istore (lv' := [(7, .int (-99)), (6, .int (-2000000000)), (5, .int (-2000000000)), (4, .int 0), (0, .ref h0), (1, .int p1), (2, .int p2), (3, .int p3)]) hx hb dX6_spanBy_13 hl (by decide) rfl (fun ls hl => ?_)
  have hlp5 : ∀ (n6 : Nat) (x1 : Int32) (x2 : Int32) (x3 : Int32) (x4 : Int32), 99 - x1.toInt + 1 < (n6 : Int) → (-99) ≤ x1.toInt → x1.toInt ≤ 99 + 1 → ∀ (H : Heap) (locs : List Loc), va_P (dC, dI) vwCl [(h0, .inr (6, [.long h0_n, .long h0_school, .long h0_wage, .long h0_gift, .long h0_others, .long h0_otherSchool, .long h0_otherWage, .long h0_otherGift, .long h0_schoolSchool, .long h0_schoolWage, .long h0_wageWage]))] H → va_D A [(h0, .inr (6, [.long h0_n, .long h0_school, .long h0_wage, .long h0_gift, .long h0_others, .long h0_otherSchool, .long h0_otherWage, .long h0_otherGift, .long h0_schoolSchool, .long h0_schoolWage, .long h0_wageWage]))] → va_S A s.heap H locs → ∀ (ls : Array Slot), lv_has ls 8 [(7, .int x1), (6, .int x2), (5, .int x3), (4, .int x4), (0, .ref h0), (1, .int p1), (2, .int p2), (3, .int p3)] → W p l e ({ frames := 4, cells := 0, slots := 0, locals := 98 } : Room) s m ([.ref h0, .int p1, .int p2, .int p3] : List Value).toArray below meth c H locs 0 0 Q (F0 m 15 ls []) := by
    intro n6
    induction n6 with
    | zero =>
      intro x1 x2 x3 x4 hm9 k7 k8
      exact absurd hm9 (by omega)
    | succ n6 ih10 =>
      intro x1 x2 x3 x4 hm9 k7 k8 H locs hP hD hS ls hl
      refine lv_iload hx hb dX6_spanBy_15 (lv_at hl 0 rfl) ?_
      refine lv_bipush (v := 99) hx hb dX6_spanBy_17 (by decide) ?_
      refine lv_icmp_gt (tgt := 78) hx hb dX6_spanBy_19 (by decide) (fun c_11 => ?_) (fun c_11 => ?_)
      · have f12 : 99 < x1.toInt := z_lt (show Int32.toInt 99 = 99 from by decide) rfl c_11
        refine lv_iload_n hx hb dX6_spanBy_78 rfl (lv_at hl 6 rfl) ?_
        rcases (show p2.toInt = 0 ∨ p2.toInt = 1 ∨ p2.toInt = 2 ∨ (p2.toInt < 0 ∨ 2 < p2.toInt) by omega) with f13 | f13 | f13 | f13
        · refine lv_tableIn (off := 25) (tgt := 104) hx hb dX6_spanBy_79 (by rw [f13]; decide) (by rw [f13]; decide) (by rw [f13]; decide) (by decide) ?_
          refine lv_iload hx hb dX6_spanBy_104 (lv_at hl 3 rfl) ?_
          exact y_iret () hx hb hr hlocks hK hP hD hS hAe hQ rfl (Or.inl trivial) dX6_spanBy_106
        · refine lv_tableIn (off := 28) (tgt := 107) hx hb dX6_spanBy_79 (by rw [f13]; decide) (by rw [f13]; decide) (by rw [f13]; decide) (by decide) ?_
          refine lv_iload hx hb dX6_spanBy_107 (lv_at hl 2 rfl) ?_
          exact y_iret () hx hb hr hlocks hK hP hD hS hAe hQ rfl (Or.inl trivial) dX6_spanBy_109
        · refine lv_tableIn (off := 31) (tgt := 110) hx hb dX6_spanBy_79 (by rw [f13]; decide) (by rw [f13]; decide) (by rw [f13]; decide) (by decide) ?_
          refine lv_iload hx hb dX6_spanBy_110 (lv_at hl 1 rfl) ?_
          exact y_iret () hx hb hr hlocks hK hP hD hS hAe hQ rfl (Or.inl trivial) dX6_spanBy_112
        · refine lv_tableOut (tgt := 113) hx hb dX6_spanBy_79 f13 (by decide) ?_
          refine lv_iload hx hb dX6_spanBy_113 (lv_at hl 3 rfl) ?_
          refine lv_if_le (tgt := 134) hx hb dX6_spanBy_115 (by decide) (fun c_14 => ?_) (fun c_14 => ?_)
          · have f15 : x4.toInt ≤ 0 := z_le rfl (show Int32.toInt 0 = 0 from by decide) c_14
            refine lv_iconst (v := 0) hx hb dX6_spanBy_134 (by decide) ?_
            exact y_iret () hx hb hr hlocks hK hP hD hS hAe hQ rfl (Or.inr (Or.inl ⟨rfl, (Or.inl f13)⟩)) dX6_spanBy_135
          · have f15 : 0 < x4.toInt := z_nle rfl (show Int32.toInt 0 = 0 from by decide) c_14
            refine lv_iload hx hb dX6_spanBy_118 (lv_at hl 1 rfl) ?_
            refine lv_iload hx hb dX6_spanBy_120 (lv_at hl 2 rfl) ?_
            refine lv_isub hx hb dX6_spanBy_122 ?_
            refine lv_topi (fun r16 _ => ?_)
            refine lv_iconst (v := 1) hx hb dX6_spanBy_123 (by decide) ?_
            refine lv_iadd hx hb dX6_spanBy_124 ?_
            refine lv_topi (fun r17 _ => ?_)
            refine lv_iload hx hb dX6_spanBy_125 (lv_at hl 3 rfl) ?_
            refine lv_icmp_ne (tgt := 134) hx hb dX6_spanBy_127 (by decide) (fun c_18 => ?_) (fun c_18 => ?_)
            · have f19 : ¬ r17.toInt = x4.toInt := z_ne rfl rfl c_18
              refine lv_iconst (v := 0) hx hb dX6_spanBy_134 (by decide) ?_
              exact y_iret () hx hb hr hlocks hK hP hD hS hAe hQ rfl (Or.inr (Or.inl ⟨rfl, (Or.inr f13)⟩)) dX6_spanBy_135
            · have f19 : r17.toInt = x4.toInt := z_eq rfl rfl c_18
              refine lv_iconst (v := 1) hx hb dX6_spanBy_130 (by decide) ?_
              refine lv_goto (tgt := 135) hx hb dX6_spanBy_131 (by decide) ?_
              exact y_iret () hx hb hr hlocks hK hP hD hS hAe hQ rfl (Or.inr (Or.inr ⟨rfl, f13⟩)) dX6_spanBy_135
      · have f12 : x1.toInt ≤ 99 := z_nlt (show Int32.toInt 99 = 99 from by decide) rfl c_11
        refine lv_iload_n hx hb dX6_spanBy_22 rfl (lv_at hl 7 rfl) ?_
        refine lv_if_eq (tgt := 40) hx hb dX6_spanBy_23 (by decide) (fun c_20 => ?_) (fun c_20 => ?_)
        · have f21 : p3.toInt = 0 := z_eq rfl (show Int32.toInt 0 = 0 from by decide) c_20
          refine lv_aload_n hx hb dX6_spanBy_40 rfl (lv_at hl 4 rfl) ?_
          refine lv_iload hx hb dX6_spanBy_41 (lv_at hl 0 rfl) ?_
          refine lv_i2l hx hb dX6_spanBy_43 rfl ?_
          refine lv_topl (fun r22 h23 => ?_)
          have f24 : r22.toInt = x1.toInt := z_i2lT h23 rfl
          refine lv_iload_n hx hb dX6_spanBy_44 rfl (lv_at hl 5 rfl) ?_
          refine y_fini (w' := fun (u25 : Unit) => [(h0, .inr (6, [.long h0_n, .long h0_school, .long h0_wage, .long h0_gift, .long h0_others, .long h0_otherSchool, .long h0_otherWage, .long h0_otherGift, .long h0_schoolSchool, .long h0_schoolWage, .long h0_wageWage]))]) (va_runV (As := [.long r22, .int p1]) (rest := []) ⟨hx, hb, hml, hown, hts⟩ (k_X6_inTrueSpan l dC dI cB cI cJ cZ cP cQ h0 H.size r22 p1 h0_n h0_school h0_wage h0_gift h0_others h0_otherSchool h0_otherWage h0_otherGift h0_schoolSchool h0_schoolWage h0_wageWage (show 0 ≤ h0_n.toInt from by omega) (show 0 ≤ h0_others.toInt from by omega) (show h0_n.toInt ≤ 200 from by omega) (show h0_others.toInt ≤ 200 from by omega) (show h0_n.toInt + h0_others.toInt ≤ 200 from by omega) (show 0 ≤ h0_school.toInt from by omega) (show h0_school.toInt ≤ 300 * h0_n.toInt from by omega) (show 0 ≤ h0_otherSchool.toInt from by omega) (show h0_otherSchool.toInt ≤ 300 * h0_others.toInt from by omega) (show 0 ≤ h0_schoolSchool.toInt from by omega) (show h0_schoolSchool.toInt ≤ 90000 * (h0_n.toInt + h0_others.toInt) from by omega)) (cwV 2 hts gX6_spanBy_X6_inTrueSpan rfl rfl rfl ⟨rfl, hd_X6_inTrueSpan⟩ ⟨Nat.le_of_ble_eq_true rfl, Nat.le_of_ble_eq_true rfl⟩) (z_pV (ci := 6) hK hP hD zX_nil [0] (by decide) rfl rfl 0 rfl) rfl rfl hl.1 rfl (lv_room (Nat.le_of_ble_eq_true rfl)) dX6_spanBy_45 ⟨Nat.le_of_ble_eq_true rfl, Nat.le_of_ble_eq_true rfl⟩) hP hD hS hA [0] [] [0] rfl rfl (by decide) (by decide) (fun _ => rfl) (by decide) (fun r26 u25 H locs hp27 hP hD hS => ?_)
          have hP : va_P (dC, dI) vwCl [(h0, .inr (6, [.long h0_n, .long h0_school, .long h0_wage, .long h0_gift, .long h0_others, .long h0_otherSchool, .long h0_otherWage, .long h0_otherGift, .long h0_schoolSchool, .long h0_schoolWage, .long h0_wageWage]))] H := hP
          have hD : va_D A [(h0, .inr (6, [.long h0_n, .long h0_school, .long h0_wage, .long h0_gift, .long h0_others, .long h0_otherSchool, .long h0_otherWage, .long h0_otherGift, .long h0_schoolSchool, .long h0_schoolWage, .long h0_wageWage]))] := hD
          have hp27 : (r26 = 0) ∨ (r26 = 1) := hp27
          rcases hp27 with f28 | f29
          · obtain rfl := f28
            refine lv_if_eq (tgt := 72) hx hb dX6_spanBy_48 (by decide) (fun _ => ?_) (fun c => absurd (by decide) c)
            obtain ⟨r30, h31⟩ : ∃ q : Int32, q = x1 + 1 := ⟨_, rfl⟩
            have f32 : r30.toInt = x1.toInt + 1 := z_iadd h31 rfl (by decide) (by omega) (by omega)
            refine lv_iinc (v := r30) (lv' := [(7, .int r30), (6, .int x2), (5, .int x3), (4, .int x4), (0, .ref h0), (1, .int p1), (2, .int p2), (3, .int p3)]) hx hb dX6_spanBy_72 hl (k := 0) rfl h31.symm (by decide) rfl (fun ls hl => ?_)
            refine lv_goto (tgt := 15) hx hb dX6_spanBy_75 (by decide) ?_
            exact ih10 r30 x2 x3 x4 (show 99 - r30.toInt + 1 < (n6 : Int) from by omega) (show (-99) ≤ r30.toInt from by omega) (show r30.toInt ≤ 99 + 1 from by omega) _ _ hP hD hS ls (lv_sub hl [0, 1, 2, 3, 4, 5, 6, 7] rfl)
          · obtain rfl := f29
            refine lv_if_eq (tgt := 72) hx hb dX6_spanBy_48 (by decide) (fun c => absurd c (by decide)) (fun _ => ?_)
            refine lv_iload hx hb dX6_spanBy_51 (lv_at hl 3 rfl) ?_
            refine lv_if_ne (tgt := 61) hx hb dX6_spanBy_53 (by decide) (fun c_33 => ?_) (fun c_33 => ?_)
            · have f34 : ¬ x4.toInt = 0 := z_ne rfl (show Int32.toInt 0 = 0 from by decide) c_33
              refine lv_iload hx hb dX6_spanBy_61 (lv_at hl 2 rfl) ?_
              refine lv_istore (lv' := [(5, .int x3), (7, .int x1), (6, .int x2), (4, .int x4), (0, .ref h0), (1, .int p1), (2, .int p2), (3, .int p3)]) hx hb dX6_spanBy_63 hl (by decide) rfl (fun ls hl => ?_)
              refine lv_iload hx hb dX6_spanBy_65 (lv_at hl 1 rfl) ?_
              refine lv_istore (lv' := [(6, .int x1), (5, .int x3), (7, .int x1), (4, .int x4), (0, .ref h0), (1, .int p1), (2, .int p2), (3, .int p3)]) hx hb dX6_spanBy_67 hl (by decide) rfl (fun ls hl => ?_)
              obtain ⟨r35, h36⟩ : ∃ q : Int32, q = x4 + 1 := ⟨_, rfl⟩
              refine lv_iinc (v := r35) (lv' := [(4, .int r35), (6, .int x1), (5, .int x3), (7, .int x1), (0, .ref h0), (1, .int p1), (2, .int p2), (3, .int p3)]) hx hb dX6_spanBy_69 hl (k := 3) rfl h36.symm (by decide) rfl (fun ls hl => ?_)
              obtain ⟨r37, h38⟩ : ∃ q : Int32, q = x1 + 1 := ⟨_, rfl⟩
              have f39 : r37.toInt = x1.toInt + 1 := z_iadd h38 rfl (by decide) (by omega) (by omega)
              refine lv_iinc (v := r37) (lv' := [(7, .int r37), (4, .int r35), (6, .int x1), (5, .int x3), (0, .ref h0), (1, .int p1), (2, .int p2), (3, .int p3)]) hx hb dX6_spanBy_72 hl (k := 3) rfl h38.symm (by decide) rfl (fun ls hl => ?_)
              refine lv_goto (tgt := 15) hx hb dX6_spanBy_75 (by decide) ?_
              exact ih10 r37 x1 x3 r35 (show 99 - r37.toInt + 1 < (n6 : Int) from by omega) (show (-99) ≤ r37.toInt from by omega) (show r37.toInt ≤ 99 + 1 from by omega) _ _ hP hD hS ls (lv_sub hl [0, 2, 3, 1, 4, 5, 6, 7] rfl)
            · have f34 : x4.toInt = 0 := z_eq rfl (show Int32.toInt 0 = 0 from by decide) c_33
              refine lv_iload hx hb dX6_spanBy_56 (lv_at hl 0 rfl) ?_
              refine lv_goto (tgt := 63) hx hb dX6_spanBy_58 (by decide) ?_
              refine lv_istore (lv' := [(5, .int x1), (7, .int x1), (6, .int x2), (4, .int x4), (0, .ref h0), (1, .int p1), (2, .int p2), (3, .int p3)]) hx hb dX6_spanBy_63 hl (by decide) rfl (fun ls hl => ?_)
              refine lv_iload hx hb dX6_spanBy_65 (lv_at hl 1 rfl) ?_
              refine lv_istore (lv' := [(6, .int x1), (5, .int x1), (7, .int x1), (4, .int x4), (0, .ref h0), (1, .int p1), (2, .int p2), (3, .int p3)]) hx hb dX6_spanBy_67 hl (by decide) rfl (fun ls hl => ?_)
              obtain ⟨r40, h41⟩ : ∃ q : Int32, q = x4 + 1 := ⟨_, rfl⟩
              have f42 : r40.toInt = x4.toInt + 1 := z_iadd h41 rfl (by decide) (by omega) (by omega)
              refine lv_iinc (v := r40) (lv' := [(4, .int r40), (6, .int x1), (5, .int x1), (7, .int x1), (0, .ref h0), (1, .int p1), (2, .int p2), (3, .int p3)]) hx hb dX6_spanBy_69 hl (k := 3) rfl h41.symm (by decide) rfl (fun ls hl => ?_)
              obtain ⟨r43, h44⟩ : ∃ q : Int32, q = x1 + 1 := ⟨_, rfl⟩
              have f45 : r43.toInt = x1.toInt + 1 := z_iadd h44 rfl (by decide) (by omega) (by omega)
              refine lv_iinc (v := r43) (lv' := [(7, .int r43), (4, .int r40), (6, .int x1), (5, .int x1), (0, .ref h0), (1, .int p1), (2, .int p2), (3, .int p3)]) hx hb dX6_spanBy_72 hl (k := 3) rfl h44.symm (by decide) rfl (fun ls hl => ?_)
              refine lv_goto (tgt := 15) hx hb dX6_spanBy_75 (by decide) ?_
              exact ih10 r43 x1 x1 r40 (show 99 - r43.toInt + 1 < (n6 : Int) from by omega) (show (-99) ≤ r43.toInt from by omega) (show r43.toInt ≤ 99 + 1 from by omega) _ _ hP hD hS ls (lv_sub hl [0, 2, 3, 1, 4, 5, 6, 7] rfl)
        · have f21 : ¬ p3.toInt = 0 := z_ne rfl (show Int32.toInt 0 = 0 from by decide) c_20
          refine lv_aload_n hx hb dX6_spanBy_26 rfl (lv_at hl 4 rfl) ?_
          refine lv_iload hx hb dX6_spanBy_27 (lv_at hl 0 rfl) ?_
          refine lv_i2l hx hb dX6_spanBy_29 rfl ?_
          refine lv_topl (fun r46 h47 => ?_)
          have f48 : r46.toInt = x1.toInt := z_i2lT h47 rfl
          refine lv_iload_n hx hb dX6_spanBy_30 rfl (lv_at hl 5 rfl) ?_
          refine y_fini (w' := fun (u49 : Unit) => [(h0, .inr (6, [.long h0_n, .long h0_school, .long h0_wage, .long h0_gift, .long h0_others, .long h0_otherSchool, .long h0_otherWage, .long h0_otherGift, .long h0_schoolSchool, .long h0_schoolWage, .long h0_wageWage]))]) (va_runV (As := [.long r46, .int p1]) (rest := []) ⟨hx, hb, hml, hown, hts⟩ (k_X6_inUsualSpan l dC dI cB cI cJ cZ cP cQ h0 H.size r46 p1 h0_n h0_school h0_wage h0_gift h0_others h0_otherSchool h0_otherWage h0_otherGift h0_schoolSchool h0_schoolWage h0_wageWage (show 0 ≤ h0_n.toInt from by omega) (show 0 ≤ h0_others.toInt from by omega) (show h0_n.toInt ≤ 200 from by omega) (show h0_others.toInt ≤ 200 from by omega) (show h0_n.toInt + h0_others.toInt ≤ 200 from by omega) (show 0 ≤ h0_school.toInt from by omega) (show h0_school.toInt ≤ 300 * h0_n.toInt from by omega) (show 0 ≤ h0_otherSchool.toInt from by omega) (show h0_otherSchool.toInt ≤ 300 * h0_others.toInt from by omega) (show 0 ≤ h0_schoolSchool.toInt from by omega) (show h0_schoolSchool.toInt ≤ 90000 * (h0_n.toInt + h0_others.toInt) from by omega)) (cwV 2 hts gX6_spanBy_X6_inUsualSpan rfl rfl rfl ⟨rfl, hd_X6_inUsualSpan⟩ ⟨Nat.le_of_ble_eq_true rfl, Nat.le_of_ble_eq_true rfl⟩) (z_pV (ci := 6) hK hP hD zX_nil [0] (by decide) rfl rfl 0 rfl) rfl rfl hl.1 rfl (lv_room (Nat.le_of_ble_eq_true rfl)) dX6_spanBy_31 ⟨Nat.le_of_ble_eq_true rfl, Nat.le_of_ble_eq_true rfl⟩) hP hD hS hA [0] [] [0] rfl rfl (by decide) (by decide) (fun _ => rfl) (by decide) (fun r50 u49 H locs hp51 hP hD hS => ?_)
          have hP : va_P (dC, dI) vwCl [(h0, .inr (6, [.long h0_n, .long h0_school, .long h0_wage, .long h0_gift, .long h0_others, .long h0_otherSchool, .long h0_otherWage, .long h0_otherGift, .long h0_schoolSchool, .long h0_schoolWage, .long h0_wageWage]))] H := hP
          have hD : va_D A [(h0, .inr (6, [.long h0_n, .long h0_school, .long h0_wage, .long h0_gift, .long h0_others, .long h0_otherSchool, .long h0_otherWage, .long h0_otherGift, .long h0_schoolSchool, .long h0_schoolWage, .long h0_wageWage]))] := hD
          have hp51 : (r50 = 0) ∨ (r50 = 1) := hp51
          rcases hp51 with f52 | f53
          · obtain rfl := f52
            refine lv_if_eq (tgt := 72) hx hb dX6_spanBy_34 (by decide) (fun _ => ?_) (fun c => absurd (by decide) c)
            obtain ⟨r54, h55⟩ : ∃ q : Int32, q = x1 + 1 := ⟨_, rfl⟩
            have f56 : r54.toInt = x1.toInt + 1 := z_iadd h55 rfl (by decide) (by omega) (by omega)
            refine lv_iinc (v := r54) (lv' := [(7, .int r54), (6, .int x2), (5, .int x3), (4, .int x4), (0, .ref h0), (1, .int p1), (2, .int p2), (3, .int p3)]) hx hb dX6_spanBy_72 hl (k := 0) rfl h55.symm (by decide) rfl (fun ls hl => ?_)
            refine lv_goto (tgt := 15) hx hb dX6_spanBy_75 (by decide) ?_
            exact ih10 r54 x2 x3 x4 (show 99 - r54.toInt + 1 < (n6 : Int) from by omega) (show (-99) ≤ r54.toInt from by omega) (show r54.toInt ≤ 99 + 1 from by omega) _ _ hP hD hS ls (lv_sub hl [0, 1, 2, 3, 4, 5, 6, 7] rfl)
          · obtain rfl := f53
            refine lv_if_eq (tgt := 72) hx hb dX6_spanBy_34 (by decide) (fun c => absurd c (by decide)) (fun _ => ?_)
            refine lv_goto (tgt := 51) hx hb dX6_spanBy_37 (by decide) ?_
            refine lv_iload hx hb dX6_spanBy_51 (lv_at hl 3 rfl) ?_
            refine lv_if_ne (tgt := 61) hx hb dX6_spanBy_53 (by decide) (fun c_57 => ?_) (fun c_57 => ?_)
            · have f58 : ¬ x4.toInt = 0 := z_ne rfl (show Int32.toInt 0 = 0 from by decide) c_57
              refine lv_iload hx hb dX6_spanBy_61 (lv_at hl 2 rfl) ?_
              refine lv_istore (lv' := [(5, .int x3), (7, .int x1), (6, .int x2), (4, .int x4), (0, .ref h0), (1, .int p1), (2, .int p2), (3, .int p3)]) hx hb dX6_spanBy_63 hl (by decide) rfl (fun ls hl => ?_)
              refine lv_iload hx hb dX6_spanBy_65 (lv_at hl 1 rfl) ?_
              refine lv_istore (lv' := [(6, .int x1), (5, .int x3), (7, .int x1), (4, .int x4), (0, .ref h0), (1, .int p1), (2, .int p2), (3, .int p3)]) hx hb dX6_spanBy_67 hl (by decide) rfl (fun ls hl => ?_)
              obtain ⟨r59, h60⟩ : ∃ q : Int32, q = x4 + 1 := ⟨_, rfl⟩
              refine lv_iinc (v := r59) (lv' := [(4, .int r59), (6, .int x1), (5, .int x3), (7, .int x1), (0, .ref h0), (1, .int p1), (2, .int p2), (3, .int p3)]) hx hb dX6_spanBy_69 hl (k := 3) rfl h60.symm (by decide) rfl (fun ls hl => ?_)
              obtain ⟨r61, h62⟩ : ∃ q : Int32, q = x1 + 1 := ⟨_, rfl⟩
              have f63 : r61.toInt = x1.toInt + 1 := z_iadd h62 rfl (by decide) (by omega) (by omega)
              refine lv_iinc (v := r61) (lv' := [(7, .int r61), (4, .int r59), (6, .int x1), (5, .int x3), (0, .ref h0), (1, .int p1), (2, .int p2), (3, .int p3)]) hx hb dX6_spanBy_72 hl (k := 3) rfl h62.symm (by decide) rfl (fun ls hl => ?_)
              refine lv_goto (tgt := 15) hx hb dX6_spanBy_75 (by decide) ?_
              exact ih10 r61 x1 x3 r59 (show 99 - r61.toInt + 1 < (n6 : Int) from by omega) (show (-99) ≤ r61.toInt from by omega) (show r61.toInt ≤ 99 + 1 from by omega) _ _ hP hD hS ls (lv_sub hl [0, 2, 3, 1, 4, 5, 6, 7] rfl)
            · have f58 : x4.toInt = 0 := z_eq rfl (show Int32.toInt 0 = 0 from by decide) c_57
              refine lv_iload hx hb dX6_spanBy_56 (lv_at hl 0 rfl) ?_
              refine lv_goto (tgt := 63) hx hb dX6_spanBy_58 (by decide) ?_
              refine lv_istore (lv' := [(5, .int x1), (7, .int x1), (6, .int x2), (4, .int x4), (0, .ref h0), (1, .int p1), (2, .int p2), (3, .int p3)]) hx hb dX6_spanBy_63 hl (by decide) rfl (fun ls hl => ?_)
              refine lv_iload hx hb dX6_spanBy_65 (lv_at hl 1 rfl) ?_
              refine lv_istore (lv' := [(6, .int x1), (5, .int x1), (7, .int x1), (4, .int x4), (0, .ref h0), (1, .int p1), (2, .int p2), (3, .int p3)]) hx hb dX6_spanBy_67 hl (by decide) rfl (fun ls hl => ?_)
              obtain ⟨r64, h65⟩ : ∃ q : Int32, q = x4 + 1 := ⟨_, rfl⟩
              have f66 : r64.toInt = x4.toInt + 1 := z_iadd h65 rfl (by decide) (by omega) (by omega)
              refine lv_iinc (v := r64) (lv' := [(4, .int r64), (6, .int x1), (5, .int x1), (7, .int x1), (0, .ref h0), (1, .int p1), (2, .int p2), (3, .int p3)]) hx hb dX6_spanBy_69 hl (k := 3) rfl h65.symm (by decide) rfl (fun ls hl => ?_)
              obtain ⟨r67, h68⟩ : ∃ q : Int32, q = x1 + 1 := ⟨_, rfl⟩
              have f69 : r67.toInt = x1.toInt + 1 := z_iadd h68 rfl (by decide) (by omega) (by omega)
              refine lv_iinc (v := r67) (lv' := [(7, .int r67), (4, .int r64), (6, .int x1), (5, .int x1), (0, .ref h0), (1, .int p1), (2, .int p2), (3, .int p3)]) hx hb dX6_spanBy_72 hl (k := 3) rfl h68.symm (by decide) rfl (fun ls hl => ?_)
              refine lv_goto (tgt := 15) hx hb dX6_spanBy_75 (by decide) ?_
              exact ih10 r67 x1 x1 r64 (show 99 - r67.toInt + 1 < (n6 : Int) from by omega) (show (-99) ≤ r67.toInt from by omega) (show r67.toInt ≤ 99 + 1 from by omega) _ _ hP hD hS ls (lv_sub hl [0, 2, 3, 1, 4, 5, 6, 7] rfl)
  exact hlp5 (99 - ((-99) : Int) + 1 + 1).toNat (-99) (-2000000000) (-2000000000) 0 (show 99 - ((-99) : Int) + 1 < ((99 - ((-99) : Int) + 1 + 1).toNat : Int) from by omega) (show (-99) ≤ ((-99) : Int) from by omega) (show ((-99) : Int) ≤ 99 + 1 from by omega) _ _ hP hD hS ls (lv_sub hl [0, 1, 2, 3, 4, 5, 6, 7] rfl)
set_option maxHeartbeats 8000000 in
set_option maxRecDepth 100000 in
theorem k_X6_strength (l : Launch) (dC : Nat → ClassId) (dI : Nat → Nat → Nat) (cB cI cJ cZ cP cQ : ClassId) (h0 : Nat) (sz : Nat) (h0_n : Int64) (h0_school : Int64) (h0_wage : Int64) (h0_gift : Int64) (h0_others : Int64) (h0_otherSchool : Int64) (h0_otherWage : Int64) (h0_otherGift : Int64) (h0_schoolSchool : Int64) (h0_schoolWage : Int64) (h0_wageWage : Int64) (e0 : 0 ≤ h0_n.toInt) (e1 : 0 ≤ h0_others.toInt) (e2 : h0_n.toInt ≤ 200) (e3 : h0_others.toInt ≤ 200) (e4 : h0_n.toInt + h0_others.toInt ≤ 200) (e5 : 0 ≤ h0_school.toInt) (e6 : h0_school.toInt ≤ 300 * h0_n.toInt) (e7 : 0 ≤ h0_otherSchool.toInt) (e8 : h0_otherSchool.toInt ≤ 300 * h0_others.toInt) (e9 : 0 ≤ h0_schoolSchool.toInt) (e10 : h0_schoolSchool.toInt ≤ 90000 * (h0_n.toInt + h0_others.toInt)) : Met l yX6_strength wsX6_strength ({ frames := 2, cells := 0, slots := 0, locals := 40 } : Room) (zPc [.ref h0] (dC, dI) (zT cB cI cJ cZ cP cQ) [(h0, .inr (6, [.long h0_n, .long h0_school, .long h0_wage, .long h0_gift, .long h0_others, .long h0_otherSchool, .long h0_otherWage, .long h0_otherGift, .long h0_schoolSchool, .long h0_schoolWage, .long h0_wageWage]))] sz [] []) (va_Ql (fun (r : Int64) (u : Unit) => (r = (-9000000000000000000) ∧ ((((h0_n.toInt ≤ 0 ∨ (0 < h0_n.toInt ∧ h0_others.toInt ≤ 0))) ∨ ((0 < h0_n.toInt ∧ 0 < h0_others.toInt))))) ∨ (True) ∨ (r = 999999999 ∧ ((0 < h0_n.toInt ∧ 0 < h0_others.toInt))) ∨ (r = 0 ∧ ((0 < h0_n.toInt ∧ 0 < h0_others.toInt)))) (zB (dC, dI) (zT cB cI cJ cZ cP cQ) (fun u : Unit => [(h0, .inr (6, [.long h0_n, .long h0_school, .long h0_wage, .long h0_gift, .long h0_others, .long h0_otherSchool, .long h0_otherWage, .long h0_otherGift, .long h0_schoolSchool, .long h0_schoolWage, .long h0_wageWage]))]) [(h0, .inr (6, [.long h0_n, .long h0_school, .long h0_wage, .long h0_gift, .long h0_others, .long h0_otherSchool, .long h0_otherWage, .long h0_otherGift, .long h0_schoolSchool, .long h0_schoolWage, .long h0_wageWage]))] sz) (va_A [(h0, .inr (6, [.long h0_n, .long h0_school, .long h0_wage, .long h0_gift, .long h0_others, .long h0_otherSchool, .long h0_otherWage, .long h0_otherGift, .long h0_schoolSchool, .long h0_schoolWage, .long h0_wageWage]))] sz)) 0 0 (va_A [(h0, .inr (6, [.long h0_n, .long h0_school, .long h0_wage, .long h0_gift, .long h0_others, .long h0_otherSchool, .long h0_otherWage, .long h0_otherGift, .long h0_schoolSchool, .long h0_schoolWage, .long h0_wageWage]))] sz) := by
  refine z_enter (cc := cX6_strength) (maxL := 5) (ret := (some .long)) (by decide) rfl (Nat.le_of_ble_eq_true rfl) ?_
  intro p e s m below meth c A ls Q H locs hx hb hr hml hown hts hlocks hin hK hP hD hA hX hS hAe hQ hl
  have hown : s.vm.findClass RX6 = some m.cls := hown
  have hi6 : ∀ w ∈ wsX60, w ∈ wsX6_strength := fun w h => List.mem_cons_of_mem _ (List.mem_append_right _ h)
  have hk0 := hts (.constantLong RX6 64 (-9000000000000000000)) (List.mem_of_getElem? (i := 1) rfl)
  have hk1 := hts (.fieldLink RX6 15 "MonthPush$Split" "school" "J") (List.mem_of_getElem? (i := 2) rfl)
  have hk2 := hts (.fieldLink RX6 27 "MonthPush$Split" "otherSchool" "J") (List.mem_of_getElem? (i := 3) rfl)
  have hk3 := hts (.fieldLink RX6 36 "MonthPush$Split" "schoolSchool" "J") (List.mem_of_getElem? (i := 4) rfl)
  have hk4 := hts (.constantLong RX6 92 100) (List.mem_of_getElem? (i := 6) rfl)
  have hk5 := hts (.fieldLink RX6 9 "MonthPush$Split" "n" "J") (List.mem_of_getElem? (i := 7) rfl)
  have hk6 := hts (.fieldLink RX6 24 "MonthPush$Split" "others" "J") (List.mem_of_getElem? (i := 8) rfl)
  have hk7 := hts (.constantLong RX6 94 2) (List.mem_of_getElem? (i := 9) rfl)
  have hk8 := hts (.constantLong RX6 90 999999999) (List.mem_of_getElem? (i := 5) rfl)
  have hl : lv_has ls 5 [(0, .ref h0)] := hl
  refine lv_aload_n hx hb dX6_strength_0 rfl (lv_at hl 0 rfl) ?_
  refine y_fini (w' := fun (u1 : Unit) => [(h0, .inr (6, [.long h0_n, .long h0_school, .long h0_wage, .long h0_gift, .long h0_others, .long h0_otherSchool, .long h0_otherWage, .long h0_otherGift, .long h0_schoolSchool, .long h0_schoolWage, .long h0_wageWage]))]) (va_runV (As := []) (rest := []) ⟨hx, hb, hml, hown, hts⟩ (k_X6_hasSpan l dC dI cB cI cJ cZ cP cQ h0 H.size h0_n h0_school h0_wage h0_gift h0_others h0_otherSchool h0_otherWage h0_otherGift h0_schoolSchool h0_schoolWage h0_wageWage (show 0 ≤ h0_n.toInt from by omega) (show 0 ≤ h0_others.toInt from by omega) (show h0_n.toInt ≤ 200 from by omega) (show h0_others.toInt ≤ 200 from by omega) (show h0_n.toInt + h0_others.toInt ≤ 200 from by omega) (show 0 ≤ h0_school.toInt from by omega) (show h0_school.toInt ≤ 300 * h0_n.toInt from by omega) (show 0 ≤ h0_otherSchool.toInt from by omega) (show h0_otherSchool.toInt ≤ 300 * h0_others.toInt from by omega) (show 0 ≤ h0_schoolSchool.toInt from by omega) (show h0_schoolSchool.toInt ≤ 90000 * (h0_n.toInt + h0_others.toInt) from by omega)) (cwV 0 hts gX6_strength_X6_hasSpan rfl rfl rfl ⟨rfl, hd_X6_hasSpan⟩ ⟨Nat.le_of_ble_eq_true rfl, Nat.le_of_ble_eq_true rfl⟩) (z_pV (ci := 6) hK hP hD zX_nil [0] (by decide) rfl rfl 0 rfl) rfl rfl hl.1 rfl (lv_room (Nat.le_of_ble_eq_true rfl)) dX6_strength_1 ⟨Nat.le_of_ble_eq_true rfl, Nat.le_of_ble_eq_true rfl⟩) hP hD hS hA [0] [] [0] rfl rfl (by decide) (by decide) (fun _ => rfl) (by decide) (fun r2 u1 H locs hp3 hP hD hS => ?_)
  have hP : va_P (dC, dI) vwCl [(h0, .inr (6, [.long h0_n, .long h0_school, .long h0_wage, .long h0_gift, .long h0_others, .long h0_otherSchool, .long h0_otherWage, .long h0_otherGift, .long h0_schoolSchool, .long h0_schoolWage, .long h0_wageWage]))] H := hP
  have hD : va_D A [(h0, .inr (6, [.long h0_n, .long h0_school, .long h0_wage, .long h0_gift, .long h0_others, .long h0_otherSchool, .long h0_otherWage, .long h0_otherGift, .long h0_schoolSchool, .long h0_schoolWage, .long h0_wageWage]))] := hD
  have hp3 : (r2 = 0 ∧ (((h0_n.toInt ≤ 0 ∨ (0 < h0_n.toInt ∧ h0_others.toInt ≤ 0))) ∨ ((0 < h0_n.toInt ∧ 0 < h0_others.toInt)))) ∨ (r2 = 1 ∧ (0 < h0_n.toInt ∧ 0 < h0_others.toInt)) := hp3
  rcases hp3 with f4 | f5
  · obtain ⟨rfl, f4⟩ := f4
    refine lv_if_ne (tgt := 11) hx hb dX6_strength_4 (by decide) (fun c => absurd (by decide) c) (fun _ => ?_)
    refine lv_ldc2 hx hb hown hk0 dX6_strength_7 ?_
    exact y_lret () hx hb hr hlocks hK hP hD hS hAe hQ rfl (Or.inl ⟨rfl, f4⟩) dX6_strength_10
  · obtain ⟨rfl, f5⟩ := f5
    refine lv_if_ne (tgt := 11) hx hb dX6_strength_4 (by decide) (fun _ => ?_) (fun c => absurd c (by decide))
    refine lv_aload_n hx hb dX6_strength_11 rfl (lv_at hl 0 rfl) ?_
    refine lv_aload_n hx hb dX6_strength_12 rfl (lv_at hl 0 rfl) ?_
    refine va_get (D := (dC, dI)) (ci := 6) (v := .long h0_school) (C := RX6) (T := TX6) (N := 11) hx hb hts hi6 hown hK hP 0 rfl rfl 1 (by decide) hk1 (fun _ h9 => h9) rfl dX6_strength_13 ?_
    refine lv_aload_n hx hb dX6_strength_16 rfl (lv_at hl 0 rfl) ?_
    refine va_get (D := (dC, dI)) (ci := 6) (v := .long h0_otherSchool) (C := RX6) (T := TX6) (N := 11) hx hb hts hi6 hown hK hP 0 rfl rfl 5 (by decide) hk2 (fun _ h9 => h9) rfl dX6_strength_17 ?_
    refine y_finl (w' := fun (u6 : Unit) => [(h0, .inr (6, [.long h0_n, .long h0_school, .long h0_wage, .long h0_gift, .long h0_others, .long h0_otherSchool, .long h0_otherWage, .long h0_otherGift, .long h0_schoolSchool, .long h0_schoolWage, .long h0_wageWage]))]) (va_runV (As := [.long h0_school, .long h0_otherSchool]) (rest := []) ⟨hx, hb, hml, hown, hts⟩ (k_X6_gapOf l dC dI cB cI cJ cZ cP cQ h0 H.size h0_school h0_otherSchool h0_n h0_school h0_wage h0_gift h0_others h0_otherSchool h0_otherWage h0_otherGift h0_schoolSchool h0_schoolWage h0_wageWage (show 0 ≤ h0_n.toInt from by omega) (show 0 ≤ h0_others.toInt from by omega) (show h0_n.toInt ≤ 200 from by omega) (show h0_others.toInt ≤ 200 from by omega) (show h0_n.toInt + h0_others.toInt ≤ 200 from by omega) (show 0 ≤ h0_school.toInt from by omega) (show h0_school.toInt ≤ 300 * h0_n.toInt from by omega) (show 0 ≤ h0_otherSchool.toInt from by omega) (show h0_otherSchool.toInt ≤ 300 * h0_others.toInt from by omega) (show 0 ≤ h0_schoolSchool.toInt from by omega) (show h0_schoolSchool.toInt ≤ 90000 * (h0_n.toInt + h0_others.toInt) from by omega)) (cwV 2 hts gX6_strength_X6_gapOf rfl rfl rfl ⟨rfl, hd_X6_gapOf⟩ ⟨Nat.le_of_ble_eq_true rfl, Nat.le_of_ble_eq_true rfl⟩) (z_pV (ci := 6) hK hP hD zX_nil [0] (by decide) rfl rfl 0 rfl) rfl rfl hl.1 rfl (lv_room (Nat.le_of_ble_eq_true rfl)) dX6_strength_20 ⟨Nat.le_of_ble_eq_true rfl, Nat.le_of_ble_eq_true rfl⟩) hP hD hS hA [0] [] [0] rfl rfl (by decide) (by decide) (fun _ => rfl) (by decide) (fun r7 u6 H locs hp8 hP hD hS => ?_)
    have hP : va_P (dC, dI) vwCl [(h0, .inr (6, [.long h0_n, .long h0_school, .long h0_wage, .long h0_gift, .long h0_others, .long h0_otherSchool, .long h0_otherWage, .long h0_otherGift, .long h0_schoolSchool, .long h0_schoolWage, .long h0_wageWage]))] H := hP
    have hD : va_D A [(h0, .inr (6, [.long h0_n, .long h0_school, .long h0_wage, .long h0_gift, .long h0_others, .long h0_otherSchool, .long h0_otherWage, .long h0_otherGift, .long h0_schoolSchool, .long h0_schoolWage, .long h0_wageWage]))] := hD
    have hp8 : True := hp8
    refine lv_lstore_n (lv' := [(1, .long r7), (0, .ref h0)]) hx hb dX6_strength_23 rfl hl (by decide) rfl (fun ls hl => ?_)
    refine lv_aload_n hx hb dX6_strength_24 rfl (lv_at hl 1 rfl) ?_
    refine lv_aload_n hx hb dX6_strength_25 rfl (lv_at hl 1 rfl) ?_
    refine va_get (D := (dC, dI)) (ci := 6) (v := .long h0_school) (C := RX6) (T := TX6) (N := 11) hx hb hts hi6 hown hK hP 0 rfl rfl 1 (by decide) hk1 (fun _ h9 => h9) rfl dX6_strength_26 ?_
    refine lv_aload_n hx hb dX6_strength_29 rfl (lv_at hl 1 rfl) ?_
    refine va_get (D := (dC, dI)) (ci := 6) (v := .long h0_otherSchool) (C := RX6) (T := TX6) (N := 11) hx hb hts hi6 hown hK hP 0 rfl rfl 5 (by decide) hk2 (fun _ h9 => h9) rfl dX6_strength_30 ?_
    refine lv_aload_n hx hb dX6_strength_33 rfl (lv_at hl 1 rfl) ?_
    refine va_get (D := (dC, dI)) (ci := 6) (v := .long h0_schoolSchool) (C := RX6) (T := TX6) (N := 11) hx hb hts hi6 hown hK hP 0 rfl rfl 8 (by decide) hk3 (fun _ h9 => h9) rfl dX6_strength_34 ?_
    refine y_finl (w' := fun (u10 : Unit) => [(h0, .inr (6, [.long h0_n, .long h0_school, .long h0_wage, .long h0_gift, .long h0_others, .long h0_otherSchool, .long h0_otherWage, .long h0_otherGift, .long h0_schoolSchool, .long h0_schoolWage, .long h0_wageWage]))]) (va_runV (As := [.long h0_school, .long h0_otherSchool, .long h0_schoolSchool]) (rest := []) ⟨hx, hb, hml, hown, hts⟩ (k_X6_withinOf l dC dI cB cI cJ cZ cP cQ h0 H.size h0_school h0_otherSchool h0_schoolSchool h0_n h0_school h0_wage h0_gift h0_others h0_otherSchool h0_otherWage h0_otherGift h0_schoolSchool h0_schoolWage h0_wageWage (show 0 ≤ h0_n.toInt from by omega) (show 0 ≤ h0_others.toInt from by omega) (show h0_n.toInt ≤ 200 from by omega) (show h0_others.toInt ≤ 200 from by omega) (show h0_n.toInt + h0_others.toInt ≤ 200 from by omega) (show 0 ≤ h0_school.toInt from by omega) (show h0_school.toInt ≤ 300 * h0_n.toInt from by omega) (show 0 ≤ h0_otherSchool.toInt from by omega) (show h0_otherSchool.toInt ≤ 300 * h0_others.toInt from by omega) (show 0 ≤ h0_schoolSchool.toInt from by omega) (show h0_schoolSchool.toInt ≤ 90000 * (h0_n.toInt + h0_others.toInt) from by omega)) (cwV 3 hts gX6_strength_X6_withinOf rfl rfl rfl ⟨rfl, hd_X6_withinOf⟩ ⟨Nat.le_of_ble_eq_true rfl, Nat.le_of_ble_eq_true rfl⟩) (z_pV (ci := 6) hK hP hD zX_nil [0] (by decide) rfl rfl 0 rfl) rfl rfl hl.1 rfl (lv_room (Nat.le_of_ble_eq_true rfl)) dX6_strength_37 ⟨Nat.le_of_ble_eq_true rfl, Nat.le_of_ble_eq_true rfl⟩) hP hD hS hA [0] [] [0] rfl rfl (by decide) (by decide) (fun _ => rfl) (by decide) (fun r11 u10 H locs hp12 hP hD hS => ?_)
    have hP : va_P (dC, dI) vwCl [(h0, .inr (6, [.long h0_n, .long h0_school, .long h0_wage, .long h0_gift, .long h0_others, .long h0_otherSchool, .long h0_otherWage, .long h0_otherGift, .long h0_schoolSchool, .long h0_schoolWage, .long h0_wageWage]))] H := hP
    have hD : va_D A [(h0, .inr (6, [.long h0_n, .long h0_school, .long h0_wage, .long h0_gift, .long h0_others, .long h0_otherSchool, .long h0_otherWage, .long h0_otherGift, .long h0_schoolSchool, .long h0_schoolWage, .long h0_wageWage]))] := hD
    have hp12 : ((0 ≤ h0_school.toInt ∧ h0_school.toInt ≤ 300 * h0_n.toInt ∧ 0 ≤ h0_otherSchool.toInt ∧ h0_otherSchool.toInt ≤ 300 * h0_others.toInt ∧ 0 ≤ h0_schoolSchool.toInt ∧ h0_schoolSchool.toInt ≤ 90000 * (h0_n.toInt + h0_others.toInt)) → (-2000000000000 ≤ r11.toInt ∧ r11.toInt ≤ 2000000000000)) := hp12
    have f13 := hp12
    refine lv_lstore_n (lv' := [(3, .long r11), (1, .long r7), (0, .ref h0)]) hx hb dX6_strength_40 rfl hl (by decide) rfl (fun ls hl => ?_)
    refine lv_lload_n hx hb dX6_strength_41 rfl (lv_at hl 0 rfl) ?_
    refine lv_lconst (v := 0) hx hb dX6_strength_42 (by decide) ?_
    refine W.lcmp hx hb dX6_strength_43 ?_
    refine lv_if_ne (tgt := 61) hx hb dX6_strength_44 (by decide) (fun c_14 => ?_) (fun c_14 => ?_)
    · have f15 : ¬ r11.toInt = 0 := z_lne rfl (show Int64.toInt 0 = 0 from by decide) c_14
      refine lv_ldc2 hx hb hown hk4 dX6_strength_61 ?_
      refine lv_aload_n hx hb dX6_strength_64 rfl (lv_at hl 2 rfl) ?_
      refine va_get (D := (dC, dI)) (ci := 6) (v := .long h0_n) (C := RX6) (T := TX6) (N := 11) hx hb hts hi6 hown hK hP 0 rfl rfl 0 (by decide) hk5 (fun _ h9 => h9) rfl dX6_strength_65 ?_
      refine lv_aload_n hx hb dX6_strength_68 rfl (lv_at hl 2 rfl) ?_
      refine va_get (D := (dC, dI)) (ci := 6) (v := .long h0_others) (C := RX6) (T := TX6) (N := 11) hx hb hts hi6 hown hK hP 0 rfl rfl 4 (by decide) hk6 (fun _ h9 => h9) rfl dX6_strength_69 ?_
      refine lv_ladd hx hb dX6_strength_72 ?_
      refine lv_ldc2 hx hb hown hk7 dX6_strength_73 ?_
      refine lv_lsub hx hb dX6_strength_76 ?_
      refine lv_lmul hx hb dX6_strength_77 ?_
      refine lv_lload_n hx hb dX6_strength_78 rfl (lv_at hl 1 rfl) ?_
      refine lv_lmul hx hb dX6_strength_79 ?_
      refine lv_lload_n hx hb dX6_strength_80 rfl (lv_at hl 1 rfl) ?_
      refine lv_lmul hx hb dX6_strength_81 ?_
      refine lv_aload_n hx hb dX6_strength_82 rfl (lv_at hl 2 rfl) ?_
      refine va_get (D := (dC, dI)) (ci := 6) (v := .long h0_n) (C := RX6) (T := TX6) (N := 11) hx hb hts hi6 hown hK hP 0 rfl rfl 0 (by decide) hk5 (fun _ h9 => h9) rfl dX6_strength_83 ?_
      refine lv_aload_n hx hb dX6_strength_86 rfl (lv_at hl 2 rfl) ?_
      refine va_get (D := (dC, dI)) (ci := 6) (v := .long h0_others) (C := RX6) (T := TX6) (N := 11) hx hb hts hi6 hown hK hP 0 rfl rfl 4 (by decide) hk6 (fun _ h9 => h9) rfl dX6_strength_87 ?_
      refine lv_ladd hx hb dX6_strength_90 ?_
      refine lv_lload_n hx hb dX6_strength_91 rfl (lv_at hl 0 rfl) ?_
      refine lv_lmul hx hb dX6_strength_92 ?_
      refine lv_ldiv hx hb dX6_strength_93 (z_div0 (by omega) (by omega) (by omega) (by omega) (by omega) (by omega) (by omega) (by omega)) ?_
      refine lv_topl (fun r16 h17 => ?_)
      exact y_lret () hx hb hr hlocks hK hP hD hS hAe hQ rfl (Or.inr (Or.inl trivial)) dX6_strength_94
    · have f15 : r11.toInt = 0 := z_leq rfl (show Int64.toInt 0 = 0 from by decide) c_14
      refine lv_lload_n hx hb dX6_strength_47 rfl (lv_at hl 1 rfl) ?_
      refine lv_lconst (v := 0) hx hb dX6_strength_48 (by decide) ?_
      refine W.lcmp hx hb dX6_strength_49 ?_
      refine lv_if_ne (tgt := 57) hx hb dX6_strength_50 (by decide) (fun c_18 => ?_) (fun c_18 => ?_)
      · have f19 : ¬ r7.toInt = 0 := z_lne rfl (show Int64.toInt 0 = 0 from by decide) c_18
        refine lv_ldc2 hx hb hown hk8 dX6_strength_57 ?_
        exact y_lret () hx hb hr hlocks hK hP hD hS hAe hQ rfl (Or.inr (Or.inr (Or.inl ⟨rfl, f5⟩))) dX6_strength_60
      · have f19 : r7.toInt = 0 := z_leq rfl (show Int64.toInt 0 = 0 from by decide) c_18
        refine lv_lconst (v := 0) hx hb dX6_strength_53 (by decide) ?_
        refine lv_goto (tgt := 60) hx hb dX6_strength_54 (by decide) ?_
        exact y_lret () hx hb hr hlocks hK hP hD hS hAe hQ rfl (Or.inr (Or.inr (Or.inr ⟨rfl, f5⟩))) dX6_strength_60
