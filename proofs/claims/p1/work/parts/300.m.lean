set_option maxHeartbeats 4000000 in
set_option maxRecDepth 100000 in
theorem c_X7_addFour_11 (l : Launch) (dC : Nat → ClassId) (dI : Nat → Nat → Nat) (cB cI cJ cZ cP cQ : ClassId) (ad : Nat → Nat) (sz : Nat) (p1 : Int32) : Met l yX7_addFour wsX7_addFour ({ frames := 0, cells := 0, slots := 0, locals := 0 } : Room) (zPc [.ref (ad 1), .int p1] (dC, dI) (zT cB cI cJ cZ cP cQ) [(ad 1, .inr (7, xf1 ad)), (ad 2, .inl (cB, 600, .inl (fun _ => 0)))] sz [] []) (va_Qv (fun _ => True) (zB (dC, dI) (zT cB cI cJ cZ cP cQ) (fun _ : Unit => [(ad 1, .inr (7, ((xf1 ad).set 1 (.int 4)))), (ad 2, .inl (cB, 600, .inl (upd (upd (upd (upd (fun _ => 0) (Int32.toNatClampNeg 0) (vp_nar .byte ((p1 >>> (24 &&& 31)).toInt8.toInt32))) (Int32.toNatClampNeg 1) (vp_nar .byte ((p1 >>> (16 &&& 31)).toInt8.toInt32))) (Int32.toNatClampNeg 2) (vp_nar .byte ((p1 >>> (8 &&& 31)).toInt8.toInt32))) (Int32.toNatClampNeg 3) (vp_nar .byte ((p1 >>> (0 &&& 31)).toInt8.toInt32)))))]) [(ad 1, .inr (7, xf1 ad)), (ad 2, .inl (cB, 600, .inl (fun _ => 0)))] sz) (va_A [(ad 1, .inr (7, xf1 ad)), (ad 2, .inl (cB, 600, .inl (fun _ => 0)))] sz)) 0 0 (va_A [(ad 1, .inr (7, xf1 ad)), (ad 2, .inl (cB, 600, .inl (fun _ => 0)))] sz) := by
  refine z_enter (cc := cX7_addFour) (maxL := 3) (ret := none) (by decide) rfl (Nat.le_of_ble_eq_true rfl) ?_
  intro p e s m below meth c A ls Q H locs hx hb hr hml hown hts hlocks hin hK hP hD hA hX hS hAe hQ hl
  have hown : s.vm.findClass RX7 = some m.cls := hown
  have hi7 : ∀ w ∈ wsX70, w ∈ wsX7_addFour := fun w h => List.mem_cons_of_mem _ (List.mem_append_right _ h)
  have hk0 := hts (.fieldLink RX7 19 "MonthPush$Tape" "length" "I") (by decide +kernel)
  have hk1 := hts (.fieldLink RX7 9 "MonthPush$Tape" "text" "[B") (by decide +kernel)
  have hl : lv_has ls 3 [(0, .ref (ad 1)), (1, .int p1)] := hl
  refine lv_bipush (v := 24) hx hb dX7_addFour_0 (by decide) ?_
  refine lv_istore_n (lv' := [(2, .int 24), (0, .ref (ad 1)), (1, .int p1)]) hx hb dX7_addFour_2 rfl hl (by decide) rfl (fun ls hl => ?_)
  refine lv_iload_n hx hb dX7_addFour_3 rfl (lv_at hl 0 rfl) ?_
  refine lv_if_lt (tgt := 46) hx hb dX7_addFour_4 (by decide) (fun c => absurd c (by decide)) (fun _ => ?_)
  refine lv_aload_n hx hb dX7_addFour_7 rfl (lv_at hl 1 rfl) ?_
  refine va_get (D := (dC, dI)) (ci := 7) (v := .int 0) (C := RX7) (T := TX7) (N := 8) hx hb hts hi7 hown hK hP 0 rfl rfl 1 (by decide) hk0 (fun _ h9 => h9) rfl dX7_addFour_8 ?_
  refine lv_sipush (v := 600) hx hb dX7_addFour_11 (by decide) ?_
  refine lv_icmp_ge (tgt := 46) hx hb dX7_addFour_14 (by decide) (fun c => absurd c (by decide)) (fun _ => ?_)
  refine lv_aload_n hx hb dX7_addFour_17 rfl (lv_at hl 1 rfl) ?_
  refine va_get (D := (dC, dI)) (ci := 7) (v := .ref (ad 2)) (C := RX7) (T := TX7) (N := 8) hx hb hts hi7 hown hK hP 0 rfl rfl 0 (by decide) hk1 (fun _ h9 => h9) rfl dX7_addFour_18 ?_
  refine lv_aload_n hx hb dX7_addFour_21 rfl (lv_at hl 1 rfl) ?_
  refine va_get (D := (dC, dI)) (ci := 7) (v := .int 0) (C := RX7) (T := TX7) (N := 8) hx hb hts hi7 hown hK hP 0 rfl rfl 1 (by decide) hk0 (fun _ h9 => h9) rfl dX7_addFour_22 ?_
  refine lv_iload_n hx hb dX7_addFour_25 rfl (lv_at hl 2 rfl) ?_
  refine lv_iload_n hx hb dX7_addFour_26 rfl (lv_at hl 0 rfl) ?_
  refine lv_ishr hx hb dX7_addFour_27 ?_
  refine lv_i2b hx hb dX7_addFour_28 rfl ?_
  refine va_bast hx hb hK hP hD hS 1 0 rfl rfl (z_in (a := 0) (by decide) (by decide) (by decide)) dX7_addFour_29 (fun H locs hP hD hS => ?_)
  have hP : va_P (dC, dI) vwCl [(ad 1, .inr (7, xf1 ad)), (ad 2, .inl (cB, 600, .inl (upd (fun _ => 0) (Int32.toNatClampNeg 0) (vp_nar .byte ((p1 >>> (24 &&& 31)).toInt8.toInt32)))))] H := hP
  have hD : va_D A [(ad 1, .inr (7, xf1 ad)), (ad 2, .inl (cB, 600, .inl (upd (fun _ => 0) (Int32.toNatClampNeg 0) (vp_nar .byte ((p1 >>> (24 &&& 31)).toInt8.toInt32)))))] := hD
  refine lv_aload_n hx hb dX7_addFour_30 rfl (lv_at hl 1 rfl) ?_
  refine lv_dup hx hb dX7_addFour_31 rfl ?_
  refine va_get (D := (dC, dI)) (ci := 7) (v := .int 0) (C := RX7) (T := TX7) (N := 8) hx hb hts hi7 hown hK hP 0 rfl rfl 1 (by decide) hk0 (fun _ h9 => h9) rfl dX7_addFour_32 ?_
  refine lv_iconst (v := 1) hx hb dX7_addFour_35 (by decide) ?_
  refine lv_iadd hx hb dX7_addFour_36 ?_
  refine z_topi (y := 1) (by decide +kernel) ?_
  refine va_put (D := (dC, dI)) (ci := 7) (v := .int 1) (ty := .int) (C := RX7) (T := TX7) (N := 8) hx hb hts hi7 tyX7 tyX7_ok nmX7 hown hK hP hD hS 0 rfl rfl 1 (by decide) hk0 (fun _ h9 => h9) rfl (by decide +kernel) rfl rfl (Nat.le_of_ble_eq_true rfl) dX7_addFour_37 (fun H locs hP hD hS => ?_)
  have hP : va_P (dC, dI) vwCl [(ad 1, .inr (7, ((xf1 ad).set 1 (.int 1)))), (ad 2, .inl (cB, 600, .inl (upd (fun _ => 0) (Int32.toNatClampNeg 0) (vp_nar .byte ((p1 >>> (24 &&& 31)).toInt8.toInt32)))))] H := hP
  have hD : va_D A [(ad 1, .inr (7, ((xf1 ad).set 1 (.int 1)))), (ad 2, .inl (cB, 600, .inl (upd (fun _ => 0) (Int32.toNatClampNeg 0) (vp_nar .byte ((p1 >>> (24 &&& 31)).toInt8.toInt32)))))] := hD
  refine lv_iinc (v := 16) (lv' := [(2, .int 16), (0, .ref (ad 1)), (1, .int p1)]) hx hb dX7_addFour_40 hl (k := 0) rfl (by decide) (by decide) rfl (fun ls hl => ?_)
  refine lv_goto (tgt := 3) hx hb dX7_addFour_43 (by decide) ?_
  refine lv_iload_n hx hb dX7_addFour_3 rfl (lv_at hl 0 rfl) ?_
  refine lv_if_lt (tgt := 46) hx hb dX7_addFour_4 (by decide) (fun c => absurd c (by decide)) (fun _ => ?_)
  refine lv_aload_n hx hb dX7_addFour_7 rfl (lv_at hl 1 rfl) ?_
  refine va_get (D := (dC, dI)) (ci := 7) (v := .int 1) (C := RX7) (T := TX7) (N := 8) hx hb hts hi7 hown hK hP 0 rfl rfl 1 (by decide) hk0 (fun _ h9 => h9) rfl dX7_addFour_8 ?_
  refine lv_sipush (v := 600) hx hb dX7_addFour_11 (by decide) ?_
  refine lv_icmp_ge (tgt := 46) hx hb dX7_addFour_14 (by decide) (fun c => absurd c (by decide)) (fun _ => ?_)
  refine lv_aload_n hx hb dX7_addFour_17 rfl (lv_at hl 1 rfl) ?_
  refine va_get (D := (dC, dI)) (ci := 7) (v := .ref (ad 2)) (C := RX7) (T := TX7) (N := 8) hx hb hts hi7 hown hK hP 0 rfl rfl 0 (by decide) hk1 (fun _ h9 => h9) rfl dX7_addFour_18 ?_
  refine lv_aload_n hx hb dX7_addFour_21 rfl (lv_at hl 1 rfl) ?_
  refine va_get (D := (dC, dI)) (ci := 7) (v := .int 1) (C := RX7) (T := TX7) (N := 8) hx hb hts hi7 hown hK hP 0 rfl rfl 1 (by decide) hk0 (fun _ h9 => h9) rfl dX7_addFour_22 ?_
  refine lv_iload_n hx hb dX7_addFour_25 rfl (lv_at hl 2 rfl) ?_
  refine lv_iload_n hx hb dX7_addFour_26 rfl (lv_at hl 0 rfl) ?_
  refine lv_ishr hx hb dX7_addFour_27 ?_
  refine lv_i2b hx hb dX7_addFour_28 rfl ?_
  refine va_bast hx hb hK hP hD hS 1 0 rfl rfl (z_in (a := 1) (by decide) (by decide) (by decide)) dX7_addFour_29 (fun H locs hP hD hS => ?_)
  have hP : va_P (dC, dI) vwCl [(ad 1, .inr (7, ((xf1 ad).set 1 (.int 1)))), (ad 2, .inl (cB, 600, .inl (upd (upd (fun _ => 0) (Int32.toNatClampNeg 0) (vp_nar .byte ((p1 >>> (24 &&& 31)).toInt8.toInt32))) (Int32.toNatClampNeg 1) (vp_nar .byte ((p1 >>> (16 &&& 31)).toInt8.toInt32)))))] H := hP
  have hD : va_D A [(ad 1, .inr (7, ((xf1 ad).set 1 (.int 1)))), (ad 2, .inl (cB, 600, .inl (upd (upd (fun _ => 0) (Int32.toNatClampNeg 0) (vp_nar .byte ((p1 >>> (24 &&& 31)).toInt8.toInt32))) (Int32.toNatClampNeg 1) (vp_nar .byte ((p1 >>> (16 &&& 31)).toInt8.toInt32)))))] := hD
  refine lv_aload_n hx hb dX7_addFour_30 rfl (lv_at hl 1 rfl) ?_
  refine lv_dup hx hb dX7_addFour_31 rfl ?_
  refine va_get (D := (dC, dI)) (ci := 7) (v := .int 1) (C := RX7) (T := TX7) (N := 8) hx hb hts hi7 hown hK hP 0 rfl rfl 1 (by decide) hk0 (fun _ h9 => h9) rfl dX7_addFour_32 ?_
  refine lv_iconst (v := 1) hx hb dX7_addFour_35 (by decide) ?_
  refine lv_iadd hx hb dX7_addFour_36 ?_
  refine z_topi (y := 2) (by decide +kernel) ?_
  refine va_put (D := (dC, dI)) (ci := 7) (v := .int 2) (ty := .int) (C := RX7) (T := TX7) (N := 8) hx hb hts hi7 tyX7 tyX7_ok nmX7 hown hK hP hD hS 0 rfl rfl 1 (by decide) hk0 (fun _ h9 => h9) rfl (by decide +kernel) rfl rfl (Nat.le_of_ble_eq_true rfl) dX7_addFour_37 (fun H locs hP hD hS => ?_)
  have hP : va_P (dC, dI) vwCl [(ad 1, .inr (7, ((xf1 ad).set 1 (.int 2)))), (ad 2, .inl (cB, 600, .inl (upd (upd (fun _ => 0) (Int32.toNatClampNeg 0) (vp_nar .byte ((p1 >>> (24 &&& 31)).toInt8.toInt32))) (Int32.toNatClampNeg 1) (vp_nar .byte ((p1 >>> (16 &&& 31)).toInt8.toInt32)))))] H := hP
  have hD : va_D A [(ad 1, .inr (7, ((xf1 ad).set 1 (.int 2)))), (ad 2, .inl (cB, 600, .inl (upd (upd (fun _ => 0) (Int32.toNatClampNeg 0) (vp_nar .byte ((p1 >>> (24 &&& 31)).toInt8.toInt32))) (Int32.toNatClampNeg 1) (vp_nar .byte ((p1 >>> (16 &&& 31)).toInt8.toInt32)))))] := hD
  refine lv_iinc (v := 8) (lv' := [(2, .int 8), (0, .ref (ad 1)), (1, .int p1)]) hx hb dX7_addFour_40 hl (k := 0) rfl (by decide) (by decide) rfl (fun ls hl => ?_)
  refine lv_goto (tgt := 3) hx hb dX7_addFour_43 (by decide) ?_
  refine lv_iload_n hx hb dX7_addFour_3 rfl (lv_at hl 0 rfl) ?_
  refine lv_if_lt (tgt := 46) hx hb dX7_addFour_4 (by decide) (fun c => absurd c (by decide)) (fun _ => ?_)
  refine lv_aload_n hx hb dX7_addFour_7 rfl (lv_at hl 1 rfl) ?_
  refine va_get (D := (dC, dI)) (ci := 7) (v := .int 2) (C := RX7) (T := TX7) (N := 8) hx hb hts hi7 hown hK hP 0 rfl rfl 1 (by decide) hk0 (fun _ h9 => h9) rfl dX7_addFour_8 ?_
  refine lv_sipush (v := 600) hx hb dX7_addFour_11 (by decide) ?_
  refine lv_icmp_ge (tgt := 46) hx hb dX7_addFour_14 (by decide) (fun c => absurd c (by decide)) (fun _ => ?_)
  refine lv_aload_n hx hb dX7_addFour_17 rfl (lv_at hl 1 rfl) ?_
  refine va_get (D := (dC, dI)) (ci := 7) (v := .ref (ad 2)) (C := RX7) (T := TX7) (N := 8) hx hb hts hi7 hown hK hP 0 rfl rfl 0 (by decide) hk1 (fun _ h9 => h9) rfl dX7_addFour_18 ?_
  refine lv_aload_n hx hb dX7_addFour_21 rfl (lv_at hl 1 rfl) ?_
  refine va_get (D := (dC, dI)) (ci := 7) (v := .int 2) (C := RX7) (T := TX7) (N := 8) hx hb hts hi7 hown hK hP 0 rfl rfl 1 (by decide) hk0 (fun _ h9 => h9) rfl dX7_addFour_22 ?_
  refine lv_iload_n hx hb dX7_addFour_25 rfl (lv_at hl 2 rfl) ?_
  refine lv_iload_n hx hb dX7_addFour_26 rfl (lv_at hl 0 rfl) ?_
  refine lv_ishr hx hb dX7_addFour_27 ?_
  refine lv_i2b hx hb dX7_addFour_28 rfl ?_
  refine va_bast hx hb hK hP hD hS 1 0 rfl rfl (z_in (a := 2) (by decide) (by decide) (by decide)) dX7_addFour_29 (fun H locs hP hD hS => ?_)
  have hP : va_P (dC, dI) vwCl [(ad 1, .inr (7, ((xf1 ad).set 1 (.int 2)))), (ad 2, .inl (cB, 600, .inl (upd (upd (upd (fun _ => 0) (Int32.toNatClampNeg 0) (vp_nar .byte ((p1 >>> (24 &&& 31)).toInt8.toInt32))) (Int32.toNatClampNeg 1) (vp_nar .byte ((p1 >>> (16 &&& 31)).toInt8.toInt32))) (Int32.toNatClampNeg 2) (vp_nar .byte ((p1 >>> (8 &&& 31)).toInt8.toInt32)))))] H := hP
  have hD : va_D A [(ad 1, .inr (7, ((xf1 ad).set 1 (.int 2)))), (ad 2, .inl (cB, 600, .inl (upd (upd (upd (fun _ => 0) (Int32.toNatClampNeg 0) (vp_nar .byte ((p1 >>> (24 &&& 31)).toInt8.toInt32))) (Int32.toNatClampNeg 1) (vp_nar .byte ((p1 >>> (16 &&& 31)).toInt8.toInt32))) (Int32.toNatClampNeg 2) (vp_nar .byte ((p1 >>> (8 &&& 31)).toInt8.toInt32)))))] := hD
  refine lv_aload_n hx hb dX7_addFour_30 rfl (lv_at hl 1 rfl) ?_
  refine lv_dup hx hb dX7_addFour_31 rfl ?_
  refine va_get (D := (dC, dI)) (ci := 7) (v := .int 2) (C := RX7) (T := TX7) (N := 8) hx hb hts hi7 hown hK hP 0 rfl rfl 1 (by decide) hk0 (fun _ h9 => h9) rfl dX7_addFour_32 ?_
  refine lv_iconst (v := 1) hx hb dX7_addFour_35 (by decide) ?_
  refine lv_iadd hx hb dX7_addFour_36 ?_
  refine z_topi (y := 3) (by decide +kernel) ?_
  refine va_put (D := (dC, dI)) (ci := 7) (v := .int 3) (ty := .int) (C := RX7) (T := TX7) (N := 8) hx hb hts hi7 tyX7 tyX7_ok nmX7 hown hK hP hD hS 0 rfl rfl 1 (by decide) hk0 (fun _ h9 => h9) rfl (by decide +kernel) rfl rfl (Nat.le_of_ble_eq_true rfl) dX7_addFour_37 (fun H locs hP hD hS => ?_)
  have hP : va_P (dC, dI) vwCl [(ad 1, .inr (7, ((xf1 ad).set 1 (.int 3)))), (ad 2, .inl (cB, 600, .inl (upd (upd (upd (fun _ => 0) (Int32.toNatClampNeg 0) (vp_nar .byte ((p1 >>> (24 &&& 31)).toInt8.toInt32))) (Int32.toNatClampNeg 1) (vp_nar .byte ((p1 >>> (16 &&& 31)).toInt8.toInt32))) (Int32.toNatClampNeg 2) (vp_nar .byte ((p1 >>> (8 &&& 31)).toInt8.toInt32)))))] H := hP
  have hD : va_D A [(ad 1, .inr (7, ((xf1 ad).set 1 (.int 3)))), (ad 2, .inl (cB, 600, .inl (upd (upd (upd (fun _ => 0) (Int32.toNatClampNeg 0) (vp_nar .byte ((p1 >>> (24 &&& 31)).toInt8.toInt32))) (Int32.toNatClampNeg 1) (vp_nar .byte ((p1 >>> (16 &&& 31)).toInt8.toInt32))) (Int32.toNatClampNeg 2) (vp_nar .byte ((p1 >>> (8 &&& 31)).toInt8.toInt32)))))] := hD
  refine lv_iinc (v := 0) (lv' := [(2, .int 0), (0, .ref (ad 1)), (1, .int p1)]) hx hb dX7_addFour_40 hl (k := 0) rfl (by decide) (by decide) rfl (fun ls hl => ?_)
  refine lv_goto (tgt := 3) hx hb dX7_addFour_43 (by decide) ?_
  refine lv_iload_n hx hb dX7_addFour_3 rfl (lv_at hl 0 rfl) ?_
  refine lv_if_lt (tgt := 46) hx hb dX7_addFour_4 (by decide) (fun c => absurd c (by decide)) (fun _ => ?_)
  refine lv_aload_n hx hb dX7_addFour_7 rfl (lv_at hl 1 rfl) ?_
  refine va_get (D := (dC, dI)) (ci := 7) (v := .int 3) (C := RX7) (T := TX7) (N := 8) hx hb hts hi7 hown hK hP 0 rfl rfl 1 (by decide) hk0 (fun _ h9 => h9) rfl dX7_addFour_8 ?_
  refine lv_sipush (v := 600) hx hb dX7_addFour_11 (by decide) ?_
  refine lv_icmp_ge (tgt := 46) hx hb dX7_addFour_14 (by decide) (fun c => absurd c (by decide)) (fun _ => ?_)
  refine lv_aload_n hx hb dX7_addFour_17 rfl (lv_at hl 1 rfl) ?_
  refine va_get (D := (dC, dI)) (ci := 7) (v := .ref (ad 2)) (C := RX7) (T := TX7) (N := 8) hx hb hts hi7 hown hK hP 0 rfl rfl 0 (by decide) hk1 (fun _ h9 => h9) rfl dX7_addFour_18 ?_
  refine lv_aload_n hx hb dX7_addFour_21 rfl (lv_at hl 1 rfl) ?_
  refine va_get (D := (dC, dI)) (ci := 7) (v := .int 3) (C := RX7) (T := TX7) (N := 8) hx hb hts hi7 hown hK hP 0 rfl rfl 1 (by decide) hk0 (fun _ h9 => h9) rfl dX7_addFour_22 ?_
  refine lv_iload_n hx hb dX7_addFour_25 rfl (lv_at hl 2 rfl) ?_
  refine lv_iload_n hx hb dX7_addFour_26 rfl (lv_at hl 0 rfl) ?_
  refine lv_ishr hx hb dX7_addFour_27 ?_
  refine lv_i2b hx hb dX7_addFour_28 rfl ?_
  refine va_bast hx hb hK hP hD hS 1 0 rfl rfl (z_in (a := 3) (by decide) (by decide) (by decide)) dX7_addFour_29 (fun H locs hP hD hS => ?_)
  have hP : va_P (dC, dI) vwCl [(ad 1, .inr (7, ((xf1 ad).set 1 (.int 3)))), (ad 2, .inl (cB, 600, .inl (upd (upd (upd (upd (fun _ => 0) (Int32.toNatClampNeg 0) (vp_nar .byte ((p1 >>> (24 &&& 31)).toInt8.toInt32))) (Int32.toNatClampNeg 1) (vp_nar .byte ((p1 >>> (16 &&& 31)).toInt8.toInt32))) (Int32.toNatClampNeg 2) (vp_nar .byte ((p1 >>> (8 &&& 31)).toInt8.toInt32))) (Int32.toNatClampNeg 3) (vp_nar .byte ((p1 >>> (0 &&& 31)).toInt8.toInt32)))))] H := hP
  have hD : va_D A [(ad 1, .inr (7, ((xf1 ad).set 1 (.int 3)))), (ad 2, .inl (cB, 600, .inl (upd (upd (upd (upd (fun _ => 0) (Int32.toNatClampNeg 0) (vp_nar .byte ((p1 >>> (24 &&& 31)).toInt8.toInt32))) (Int32.toNatClampNeg 1) (vp_nar .byte ((p1 >>> (16 &&& 31)).toInt8.toInt32))) (Int32.toNatClampNeg 2) (vp_nar .byte ((p1 >>> (8 &&& 31)).toInt8.toInt32))) (Int32.toNatClampNeg 3) (vp_nar .byte ((p1 >>> (0 &&& 31)).toInt8.toInt32)))))] := hD
  refine lv_aload_n hx hb dX7_addFour_30 rfl (lv_at hl 1 rfl) ?_
  refine lv_dup hx hb dX7_addFour_31 rfl ?_
  refine va_get (D := (dC, dI)) (ci := 7) (v := .int 3) (C := RX7) (T := TX7) (N := 8) hx hb hts hi7 hown hK hP 0 rfl rfl 1 (by decide) hk0 (fun _ h9 => h9) rfl dX7_addFour_32 ?_
  refine lv_iconst (v := 1) hx hb dX7_addFour_35 (by decide) ?_
  refine lv_iadd hx hb dX7_addFour_36 ?_
  refine z_topi (y := 4) (by decide +kernel) ?_
  refine va_put (D := (dC, dI)) (ci := 7) (v := .int 4) (ty := .int) (C := RX7) (T := TX7) (N := 8) hx hb hts hi7 tyX7 tyX7_ok nmX7 hown hK hP hD hS 0 rfl rfl 1 (by decide) hk0 (fun _ h9 => h9) rfl (by decide +kernel) rfl rfl (Nat.le_of_ble_eq_true rfl) dX7_addFour_37 (fun H locs hP hD hS => ?_)
  have hP : va_P (dC, dI) vwCl [(ad 1, .inr (7, ((xf1 ad).set 1 (.int 4)))), (ad 2, .inl (cB, 600, .inl (upd (upd (upd (upd (fun _ => 0) (Int32.toNatClampNeg 0) (vp_nar .byte ((p1 >>> (24 &&& 31)).toInt8.toInt32))) (Int32.toNatClampNeg 1) (vp_nar .byte ((p1 >>> (16 &&& 31)).toInt8.toInt32))) (Int32.toNatClampNeg 2) (vp_nar .byte ((p1 >>> (8 &&& 31)).toInt8.toInt32))) (Int32.toNatClampNeg 3) (vp_nar .byte ((p1 >>> (0 &&& 31)).toInt8.toInt32)))))] H := hP
  have hD : va_D A [(ad 1, .inr (7, ((xf1 ad).set 1 (.int 4)))), (ad 2, .inl (cB, 600, .inl (upd (upd (upd (upd (fun _ => 0) (Int32.toNatClampNeg 0) (vp_nar .byte ((p1 >>> (24 &&& 31)).toInt8.toInt32))) (Int32.toNatClampNeg 1) (vp_nar .byte ((p1 >>> (16 &&& 31)).toInt8.toInt32))) (Int32.toNatClampNeg 2) (vp_nar .byte ((p1 >>> (8 &&& 31)).toInt8.toInt32))) (Int32.toNatClampNeg 3) (vp_nar .byte ((p1 >>> (0 &&& 31)).toInt8.toInt32)))))] := hD
  refine lv_iinc (v := (-8)) (lv' := [(2, .int (-8)), (0, .ref (ad 1)), (1, .int p1)]) hx hb dX7_addFour_40 hl (k := 0) rfl (by decide) (by decide) rfl (fun ls hl => ?_)
  refine lv_goto (tgt := 3) hx hb dX7_addFour_43 (by decide) ?_
  refine lv_iload_n hx hb dX7_addFour_3 rfl (lv_at hl 0 rfl) ?_
  refine lv_if_lt (tgt := 46) hx hb dX7_addFour_4 (by decide) (fun _ => ?_) (fun c => absurd (by decide) c)
  exact z_vret () hx hb hr hlocks hK hP hD hS hAe hQ rfl trivial dX7_addFour_46
set_option maxHeartbeats 4000000 in
set_option maxRecDepth 100000 in
theorem c_X7_addFour_12 (l : Launch) (dC : Nat → ClassId) (dI : Nat → Nat → Nat) (cB cI cJ cZ cP cQ : ClassId) (ad : Nat → Nat) (sz : Nat) (p1 : Int32) (g0 : Nat → Int32) : Met l yX7_addFour wsX7_addFour ({ frames := 0, cells := 0, slots := 0, locals := 0 } : Room) (zPc [.ref (ad 1), .int p1] (dC, dI) (zT cB cI cJ cZ cP cQ) [(ad 1, .inr (7, ((xf1 ad).set 1 (.int 4)))), (ad 2, .inl (cB, 600, .inl g0))] sz [] []) (va_Qv (fun _ => True) (zB (dC, dI) (zT cB cI cJ cZ cP cQ) (fun _ : Unit => [(ad 1, .inr (7, ((xf1 ad).set 1 (.int 8)))), (ad 2, .inl (cB, 600, .inl (upd (upd (upd (upd g0 (Int32.toNatClampNeg 4) (vp_nar .byte ((p1 >>> (24 &&& 31)).toInt8.toInt32))) (Int32.toNatClampNeg 5) (vp_nar .byte ((p1 >>> (16 &&& 31)).toInt8.toInt32))) (Int32.toNatClampNeg 6) (vp_nar .byte ((p1 >>> (8 &&& 31)).toInt8.toInt32))) (Int32.toNatClampNeg 7) (vp_nar .byte ((p1 >>> (0 &&& 31)).toInt8.toInt32)))))]) [(ad 1, .inr (7, ((xf1 ad).set 1 (.int 4)))), (ad 2, .inl (cB, 600, .inl g0))] sz) (va_A [(ad 1, .inr (7, ((xf1 ad).set 1 (.int 4)))), (ad 2, .inl (cB, 600, .inl g0))] sz)) 0 0 (va_A [(ad 1, .inr (7, ((xf1 ad).set 1 (.int 4)))), (ad 2, .inl (cB, 600, .inl g0))] sz) := by
  refine z_enter (cc := cX7_addFour) (maxL := 3) (ret := none) (by decide) rfl (Nat.le_of_ble_eq_true rfl) ?_
  intro p e s m below meth c A ls Q H locs hx hb hr hml hown hts hlocks hin hK hP hD hA hX hS hAe hQ hl
  have hown : s.vm.findClass RX7 = some m.cls := hown
  have hi7 : ∀ w ∈ wsX70, w ∈ wsX7_addFour := fun w h => List.mem_cons_of_mem _ (List.mem_append_right _ h)
  have hk0 := hts (.fieldLink RX7 19 "MonthPush$Tape" "length" "I") (by decide +kernel)
  have hk1 := hts (.fieldLink RX7 9 "MonthPush$Tape" "text" "[B") (by decide +kernel)
  have hl : lv_has ls 3 [(0, .ref (ad 1)), (1, .int p1)] := hl
  refine lv_bipush (v := 24) hx hb dX7_addFour_0 (by decide) ?_
  refine lv_istore_n (lv' := [(2, .int 24), (0, .ref (ad 1)), (1, .int p1)]) hx hb dX7_addFour_2 rfl hl (by decide) rfl (fun ls hl => ?_)
  refine lv_iload_n hx hb dX7_addFour_3 rfl (lv_at hl 0 rfl) ?_
  refine lv_if_lt (tgt := 46) hx hb dX7_addFour_4 (by decide) (fun c => absurd c (by decide)) (fun _ => ?_)
  refine lv_aload_n hx hb dX7_addFour_7 rfl (lv_at hl 1 rfl) ?_
  refine va_get (D := (dC, dI)) (ci := 7) (v := .int 4) (C := RX7) (T := TX7) (N := 8) hx hb hts hi7 hown hK hP 0 rfl rfl 1 (by decide) hk0 (fun _ h9 => h9) rfl dX7_addFour_8 ?_
  refine lv_sipush (v := 600) hx hb dX7_addFour_11 (by decide) ?_
  refine lv_icmp_ge (tgt := 46) hx hb dX7_addFour_14 (by decide) (fun c => absurd c (by decide)) (fun _ => ?_)
  refine lv_aload_n hx hb dX7_addFour_17 rfl (lv_at hl 1 rfl) ?_
  refine va_get (D := (dC, dI)) (ci := 7) (v := .ref (ad 2)) (C := RX7) (T := TX7) (N := 8) hx hb hts hi7 hown hK hP 0 rfl rfl 0 (by decide) hk1 (fun _ h9 => h9) rfl dX7_addFour_18 ?_
  refine lv_aload_n hx hb dX7_addFour_21 rfl (lv_at hl 1 rfl) ?_
  refine va_get (D := (dC, dI)) (ci := 7) (v := .int 4) (C := RX7) (T := TX7) (N := 8) hx hb hts hi7 hown hK hP 0 rfl rfl 1 (by decide) hk0 (fun _ h9 => h9) rfl dX7_addFour_22 ?_
  refine lv_iload_n hx hb dX7_addFour_25 rfl (lv_at hl 2 rfl) ?_
  refine lv_iload_n hx hb dX7_addFour_26 rfl (lv_at hl 0 rfl) ?_
  refine lv_ishr hx hb dX7_addFour_27 ?_
  refine lv_i2b hx hb dX7_addFour_28 rfl ?_
  refine va_bast hx hb hK hP hD hS 1 0 rfl rfl (z_in (a := 4) (by decide) (by decide) (by decide)) dX7_addFour_29 (fun H locs hP hD hS => ?_)
  have hP : va_P (dC, dI) vwCl [(ad 1, .inr (7, ((xf1 ad).set 1 (.int 4)))), (ad 2, .inl (cB, 600, .inl (upd g0 (Int32.toNatClampNeg 4) (vp_nar .byte ((p1 >>> (24 &&& 31)).toInt8.toInt32)))))] H := hP
  have hD : va_D A [(ad 1, .inr (7, ((xf1 ad).set 1 (.int 4)))), (ad 2, .inl (cB, 600, .inl (upd g0 (Int32.toNatClampNeg 4) (vp_nar .byte ((p1 >>> (24 &&& 31)).toInt8.toInt32)))))] := hD
  refine lv_aload_n hx hb dX7_addFour_30 rfl (lv_at hl 1 rfl) ?_
  refine lv_dup hx hb dX7_addFour_31 rfl ?_
  refine va_get (D := (dC, dI)) (ci := 7) (v := .int 4) (C := RX7) (T := TX7) (N := 8) hx hb hts hi7 hown hK hP 0 rfl rfl 1 (by decide) hk0 (fun _ h9 => h9) rfl dX7_addFour_32 ?_
  refine lv_iconst (v := 1) hx hb dX7_addFour_35 (by decide) ?_
  refine lv_iadd hx hb dX7_addFour_36 ?_
  refine z_topi (y := 5) (by decide +kernel) ?_
  refine va_put (D := (dC, dI)) (ci := 7) (v := .int 5) (ty := .int) (C := RX7) (T := TX7) (N := 8) hx hb hts hi7 tyX7 tyX7_ok nmX7 hown hK hP hD hS 0 rfl rfl 1 (by decide) hk0 (fun _ h9 => h9) rfl (by decide +kernel) rfl rfl (Nat.le_of_ble_eq_true rfl) dX7_addFour_37 (fun H locs hP hD hS => ?_)
  have hP : va_P (dC, dI) vwCl [(ad 1, .inr (7, ((xf1 ad).set 1 (.int 5)))), (ad 2, .inl (cB, 600, .inl (upd g0 (Int32.toNatClampNeg 4) (vp_nar .byte ((p1 >>> (24 &&& 31)).toInt8.toInt32)))))] H := hP
  have hD : va_D A [(ad 1, .inr (7, ((xf1 ad).set 1 (.int 5)))), (ad 2, .inl (cB, 600, .inl (upd g0 (Int32.toNatClampNeg 4) (vp_nar .byte ((p1 >>> (24 &&& 31)).toInt8.toInt32)))))] := hD
  refine lv_iinc (v := 16) (lv' := [(2, .int 16), (0, .ref (ad 1)), (1, .int p1)]) hx hb dX7_addFour_40 hl (k := 0) rfl (by decide) (by decide) rfl (fun ls hl => ?_)
  refine lv_goto (tgt := 3) hx hb dX7_addFour_43 (by decide) ?_
  refine lv_iload_n hx hb dX7_addFour_3 rfl (lv_at hl 0 rfl) ?_
  refine lv_if_lt (tgt := 46) hx hb dX7_addFour_4 (by decide) (fun c => absurd c (by decide)) (fun _ => ?_)
  refine lv_aload_n hx hb dX7_addFour_7 rfl (lv_at hl 1 rfl) ?_
  refine va_get (D := (dC, dI)) (ci := 7) (v := .int 5) (C := RX7) (T := TX7) (N := 8) hx hb hts hi7 hown hK hP 0 rfl rfl 1 (by decide) hk0 (fun _ h9 => h9) rfl dX7_addFour_8 ?_
  refine lv_sipush (v := 600) hx hb dX7_addFour_11 (by decide) ?_
  refine lv_icmp_ge (tgt := 46) hx hb dX7_addFour_14 (by decide) (fun c => absurd c (by decide)) (fun _ => ?_)
  refine lv_aload_n hx hb dX7_addFour_17 rfl (lv_at hl 1 rfl) ?_
  refine va_get (D := (dC, dI)) (ci := 7) (v := .ref (ad 2)) (C := RX7) (T := TX7) (N := 8) hx hb hts hi7 hown hK hP 0 rfl rfl 0 (by decide) hk1 (fun _ h9 => h9) rfl dX7_addFour_18 ?_
  refine lv_aload_n hx hb dX7_addFour_21 rfl (lv_at hl 1 rfl) ?_
  refine va_get (D := (dC, dI)) (ci := 7) (v := .int 5) (C := RX7) (T := TX7) (N := 8) hx hb hts hi7 hown hK hP 0 rfl rfl 1 (by decide) hk0 (fun _ h9 => h9) rfl dX7_addFour_22 ?_
  refine lv_iload_n hx hb dX7_addFour_25 rfl (lv_at hl 2 rfl) ?_
  refine lv_iload_n hx hb dX7_addFour_26 rfl (lv_at hl 0 rfl) ?_
  refine lv_ishr hx hb dX7_addFour_27 ?_
  refine lv_i2b hx hb dX7_addFour_28 rfl ?_
  refine va_bast hx hb hK hP hD hS 1 0 rfl rfl (z_in (a := 5) (by decide) (by decide) (by decide)) dX7_addFour_29 (fun H locs hP hD hS => ?_)
  have hP : va_P (dC, dI) vwCl [(ad 1, .inr (7, ((xf1 ad).set 1 (.int 5)))), (ad 2, .inl (cB, 600, .inl (upd (upd g0 (Int32.toNatClampNeg 4) (vp_nar .byte ((p1 >>> (24 &&& 31)).toInt8.toInt32))) (Int32.toNatClampNeg 5) (vp_nar .byte ((p1 >>> (16 &&& 31)).toInt8.toInt32)))))] H := hP
  have hD : va_D A [(ad 1, .inr (7, ((xf1 ad).set 1 (.int 5)))), (ad 2, .inl (cB, 600, .inl (upd (upd g0 (Int32.toNatClampNeg 4) (vp_nar .byte ((p1 >>> (24 &&& 31)).toInt8.toInt32))) (Int32.toNatClampNeg 5) (vp_nar .byte ((p1 >>> (16 &&& 31)).toInt8.toInt32)))))] := hD
  refine lv_aload_n hx hb dX7_addFour_30 rfl (lv_at hl 1 rfl) ?_
  refine lv_dup hx hb dX7_addFour_31 rfl ?_
  refine va_get (D := (dC, dI)) (ci := 7) (v := .int 5) (C := RX7) (T := TX7) (N := 8) hx hb hts hi7 hown hK hP 0 rfl rfl 1 (by decide) hk0 (fun _ h9 => h9) rfl dX7_addFour_32 ?_
  refine lv_iconst (v := 1) hx hb dX7_addFour_35 (by decide) ?_
  refine lv_iadd hx hb dX7_addFour_36 ?_
  refine z_topi (y := 6) (by decide +kernel) ?_
  refine va_put (D := (dC, dI)) (ci := 7) (v := .int 6) (ty := .int) (C := RX7) (T := TX7) (N := 8) hx hb hts hi7 tyX7 tyX7_ok nmX7 hown hK hP hD hS 0 rfl rfl 1 (by decide) hk0 (fun _ h9 => h9) rfl (by decide +kernel) rfl rfl (Nat.le_of_ble_eq_true rfl) dX7_addFour_37 (fun H locs hP hD hS => ?_)
  have hP : va_P (dC, dI) vwCl [(ad 1, .inr (7, ((xf1 ad).set 1 (.int 6)))), (ad 2, .inl (cB, 600, .inl (upd (upd g0 (Int32.toNatClampNeg 4) (vp_nar .byte ((p1 >>> (24 &&& 31)).toInt8.toInt32))) (Int32.toNatClampNeg 5) (vp_nar .byte ((p1 >>> (16 &&& 31)).toInt8.toInt32)))))] H := hP
  have hD : va_D A [(ad 1, .inr (7, ((xf1 ad).set 1 (.int 6)))), (ad 2, .inl (cB, 600, .inl (upd (upd g0 (Int32.toNatClampNeg 4) (vp_nar .byte ((p1 >>> (24 &&& 31)).toInt8.toInt32))) (Int32.toNatClampNeg 5) (vp_nar .byte ((p1 >>> (16 &&& 31)).toInt8.toInt32)))))] := hD
  refine lv_iinc (v := 8) (lv' := [(2, .int 8), (0, .ref (ad 1)), (1, .int p1)]) hx hb dX7_addFour_40 hl (k := 0) rfl (by decide) (by decide) rfl (fun ls hl => ?_)
  refine lv_goto (tgt := 3) hx hb dX7_addFour_43 (by decide) ?_
  refine lv_iload_n hx hb dX7_addFour_3 rfl (lv_at hl 0 rfl) ?_
  refine lv_if_lt (tgt := 46) hx hb dX7_addFour_4 (by decide) (fun c => absurd c (by decide)) (fun _ => ?_)
  refine lv_aload_n hx hb dX7_addFour_7 rfl (lv_at hl 1 rfl) ?_
  refine va_get (D := (dC, dI)) (ci := 7) (v := .int 6) (C := RX7) (T := TX7) (N := 8) hx hb hts hi7 hown hK hP 0 rfl rfl 1 (by decide) hk0 (fun _ h9 => h9) rfl dX7_addFour_8 ?_
  refine lv_sipush (v := 600) hx hb dX7_addFour_11 (by decide) ?_
  refine lv_icmp_ge (tgt := 46) hx hb dX7_addFour_14 (by decide) (fun c => absurd c (by decide)) (fun _ => ?_)
  refine lv_aload_n hx hb dX7_addFour_17 rfl (lv_at hl 1 rfl) ?_
  refine va_get (D := (dC, dI)) (ci := 7) (v := .ref (ad 2)) (C := RX7) (T := TX7) (N := 8) hx hb hts hi7 hown hK hP 0 rfl rfl 0 (by decide) hk1 (fun _ h9 => h9) rfl dX7_addFour_18 ?_
  refine lv_aload_n hx hb dX7_addFour_21 rfl (lv_at hl 1 rfl) ?_
  refine va_get (D := (dC, dI)) (ci := 7) (v := .int 6) (C := RX7) (T := TX7) (N := 8) hx hb hts hi7 hown hK hP 0 rfl rfl 1 (by decide) hk0 (fun _ h9 => h9) rfl dX7_addFour_22 ?_
  refine lv_iload_n hx hb dX7_addFour_25 rfl (lv_at hl 2 rfl) ?_
  refine lv_iload_n hx hb dX7_addFour_26 rfl (lv_at hl 0 rfl) ?_
  refine lv_ishr hx hb dX7_addFour_27 ?_
  refine lv_i2b hx hb dX7_addFour_28 rfl ?_
  refine va_bast hx hb hK hP hD hS 1 0 rfl rfl (z_in (a := 6) (by decide) (by decide) (by decide)) dX7_addFour_29 (fun H locs hP hD hS => ?_)
  have hP : va_P (dC, dI) vwCl [(ad 1, .inr (7, ((xf1 ad).set 1 (.int 6)))), (ad 2, .inl (cB, 600, .inl (upd (upd (upd g0 (Int32.toNatClampNeg 4) (vp_nar .byte ((p1 >>> (24 &&& 31)).toInt8.toInt32))) (Int32.toNatClampNeg 5) (vp_nar .byte ((p1 >>> (16 &&& 31)).toInt8.toInt32))) (Int32.toNatClampNeg 6) (vp_nar .byte ((p1 >>> (8 &&& 31)).toInt8.toInt32)))))] H := hP
  have hD : va_D A [(ad 1, .inr (7, ((xf1 ad).set 1 (.int 6)))), (ad 2, .inl (cB, 600, .inl (upd (upd (upd g0 (Int32.toNatClampNeg 4) (vp_nar .byte ((p1 >>> (24 &&& 31)).toInt8.toInt32))) (Int32.toNatClampNeg 5) (vp_nar .byte ((p1 >>> (16 &&& 31)).toInt8.toInt32))) (Int32.toNatClampNeg 6) (vp_nar .byte ((p1 >>> (8 &&& 31)).toInt8.toInt32)))))] := hD
  refine lv_aload_n hx hb dX7_addFour_30 rfl (lv_at hl 1 rfl) ?_
  refine lv_dup hx hb dX7_addFour_31 rfl ?_
  refine va_get (D := (dC, dI)) (ci := 7) (v := .int 6) (C := RX7) (T := TX7) (N := 8) hx hb hts hi7 hown hK hP 0 rfl rfl 1 (by decide) hk0 (fun _ h9 => h9) rfl dX7_addFour_32 ?_
  refine lv_iconst (v := 1) hx hb dX7_addFour_35 (by decide) ?_
  refine lv_iadd hx hb dX7_addFour_36 ?_
  refine z_topi (y := 7) (by decide +kernel) ?_
  refine va_put (D := (dC, dI)) (ci := 7) (v := .int 7) (ty := .int) (C := RX7) (T := TX7) (N := 8) hx hb hts hi7 tyX7 tyX7_ok nmX7 hown hK hP hD hS 0 rfl rfl 1 (by decide) hk0 (fun _ h9 => h9) rfl (by decide +kernel) rfl rfl (Nat.le_of_ble_eq_true rfl) dX7_addFour_37 (fun H locs hP hD hS => ?_)
  have hP : va_P (dC, dI) vwCl [(ad 1, .inr (7, ((xf1 ad).set 1 (.int 7)))), (ad 2, .inl (cB, 600, .inl (upd (upd (upd g0 (Int32.toNatClampNeg 4) (vp_nar .byte ((p1 >>> (24 &&& 31)).toInt8.toInt32))) (Int32.toNatClampNeg 5) (vp_nar .byte ((p1 >>> (16 &&& 31)).toInt8.toInt32))) (Int32.toNatClampNeg 6) (vp_nar .byte ((p1 >>> (8 &&& 31)).toInt8.toInt32)))))] H := hP
  have hD : va_D A [(ad 1, .inr (7, ((xf1 ad).set 1 (.int 7)))), (ad 2, .inl (cB, 600, .inl (upd (upd (upd g0 (Int32.toNatClampNeg 4) (vp_nar .byte ((p1 >>> (24 &&& 31)).toInt8.toInt32))) (Int32.toNatClampNeg 5) (vp_nar .byte ((p1 >>> (16 &&& 31)).toInt8.toInt32))) (Int32.toNatClampNeg 6) (vp_nar .byte ((p1 >>> (8 &&& 31)).toInt8.toInt32)))))] := hD
  refine lv_iinc (v := 0) (lv' := [(2, .int 0), (0, .ref (ad 1)), (1, .int p1)]) hx hb dX7_addFour_40 hl (k := 0) rfl (by decide) (by decide) rfl (fun ls hl => ?_)
  refine lv_goto (tgt := 3) hx hb dX7_addFour_43 (by decide) ?_
  refine lv_iload_n hx hb dX7_addFour_3 rfl (lv_at hl 0 rfl) ?_
  refine lv_if_lt (tgt := 46) hx hb dX7_addFour_4 (by decide) (fun c => absurd c (by decide)) (fun _ => ?_)
  refine lv_aload_n hx hb dX7_addFour_7 rfl (lv_at hl 1 rfl) ?_
  refine va_get (D := (dC, dI)) (ci := 7) (v := .int 7) (C := RX7) (T := TX7) (N := 8) hx hb hts hi7 hown hK hP 0 rfl rfl 1 (by decide) hk0 (fun _ h9 => h9) rfl dX7_addFour_8 ?_
  refine lv_sipush (v := 600) hx hb dX7_addFour_11 (by decide) ?_
  refine lv_icmp_ge (tgt := 46) hx hb dX7_addFour_14 (by decide) (fun c => absurd c (by decide)) (fun _ => ?_)
  refine lv_aload_n hx hb dX7_addFour_17 rfl (lv_at hl 1 rfl) ?_
  refine va_get (D := (dC, dI)) (ci := 7) (v := .ref (ad 2)) (C := RX7) (T := TX7) (N := 8) hx hb hts hi7 hown hK hP 0 rfl rfl 0 (by decide) hk1 (fun _ h9 => h9) rfl dX7_addFour_18 ?_
  refine lv_aload_n hx hb dX7_addFour_21 rfl (lv_at hl 1 rfl) ?_
  refine va_get (D := (dC, dI)) (ci := 7) (v := .int 7) (C := RX7) (T := TX7) (N := 8) hx hb hts hi7 hown hK hP 0 rfl rfl 1 (by decide) hk0 (fun _ h9 => h9) rfl dX7_addFour_22 ?_
  refine lv_iload_n hx hb dX7_addFour_25 rfl (lv_at hl 2 rfl) ?_
  refine lv_iload_n hx hb dX7_addFour_26 rfl (lv_at hl 0 rfl) ?_
  refine lv_ishr hx hb dX7_addFour_27 ?_
  refine lv_i2b hx hb dX7_addFour_28 rfl ?_
  refine va_bast hx hb hK hP hD hS 1 0 rfl rfl (z_in (a := 7) (by decide) (by decide) (by decide)) dX7_addFour_29 (fun H locs hP hD hS => ?_)
  have hP : va_P (dC, dI) vwCl [(ad 1, .inr (7, ((xf1 ad).set 1 (.int 7)))), (ad 2, .inl (cB, 600, .inl (upd (upd (upd (upd g0 (Int32.toNatClampNeg 4) (vp_nar .byte ((p1 >>> (24 &&& 31)).toInt8.toInt32))) (Int32.toNatClampNeg 5) (vp_nar .byte ((p1 >>> (16 &&& 31)).toInt8.toInt32))) (Int32.toNatClampNeg 6) (vp_nar .byte ((p1 >>> (8 &&& 31)).toInt8.toInt32))) (Int32.toNatClampNeg 7) (vp_nar .byte ((p1 >>> (0 &&& 31)).toInt8.toInt32)))))] H := hP
  have hD : va_D A [(ad 1, .inr (7, ((xf1 ad).set 1 (.int 7)))), (ad 2, .inl (cB, 600, .inl (upd (upd (upd (upd g0 (Int32.toNatClampNeg 4) (vp_nar .byte ((p1 >>> (24 &&& 31)).toInt8.toInt32))) (Int32.toNatClampNeg 5) (vp_nar .byte ((p1 >>> (16 &&& 31)).toInt8.toInt32))) (Int32.toNatClampNeg 6) (vp_nar .byte ((p1 >>> (8 &&& 31)).toInt8.toInt32))) (Int32.toNatClampNeg 7) (vp_nar .byte ((p1 >>> (0 &&& 31)).toInt8.toInt32)))))] := hD
  refine lv_aload_n hx hb dX7_addFour_30 rfl (lv_at hl 1 rfl) ?_
  refine lv_dup hx hb dX7_addFour_31 rfl ?_
  refine va_get (D := (dC, dI)) (ci := 7) (v := .int 7) (C := RX7) (T := TX7) (N := 8) hx hb hts hi7 hown hK hP 0 rfl rfl 1 (by decide) hk0 (fun _ h9 => h9) rfl dX7_addFour_32 ?_
  refine lv_iconst (v := 1) hx hb dX7_addFour_35 (by decide) ?_
  refine lv_iadd hx hb dX7_addFour_36 ?_
  refine z_topi (y := 8) (by decide +kernel) ?_
  refine va_put (D := (dC, dI)) (ci := 7) (v := .int 8) (ty := .int) (C := RX7) (T := TX7) (N := 8) hx hb hts hi7 tyX7 tyX7_ok nmX7 hown hK hP hD hS 0 rfl rfl 1 (by decide) hk0 (fun _ h9 => h9) rfl (by decide +kernel) rfl rfl (Nat.le_of_ble_eq_true rfl) dX7_addFour_37 (fun H locs hP hD hS => ?_)
  have hP : va_P (dC, dI) vwCl [(ad 1, .inr (7, ((xf1 ad).set 1 (.int 8)))), (ad 2, .inl (cB, 600, .inl (upd (upd (upd (upd g0 (Int32.toNatClampNeg 4) (vp_nar .byte ((p1 >>> (24 &&& 31)).toInt8.toInt32))) (Int32.toNatClampNeg 5) (vp_nar .byte ((p1 >>> (16 &&& 31)).toInt8.toInt32))) (Int32.toNatClampNeg 6) (vp_nar .byte ((p1 >>> (8 &&& 31)).toInt8.toInt32))) (Int32.toNatClampNeg 7) (vp_nar .byte ((p1 >>> (0 &&& 31)).toInt8.toInt32)))))] H := hP
  have hD : va_D A [(ad 1, .inr (7, ((xf1 ad).set 1 (.int 8)))), (ad 2, .inl (cB, 600, .inl (upd (upd (upd (upd g0 (Int32.toNatClampNeg 4) (vp_nar .byte ((p1 >>> (24 &&& 31)).toInt8.toInt32))) (Int32.toNatClampNeg 5) (vp_nar .byte ((p1 >>> (16 &&& 31)).toInt8.toInt32))) (Int32.toNatClampNeg 6) (vp_nar .byte ((p1 >>> (8 &&& 31)).toInt8.toInt32))) (Int32.toNatClampNeg 7) (vp_nar .byte ((p1 >>> (0 &&& 31)).toInt8.toInt32)))))] := hD
  refine lv_iinc (v := (-8)) (lv' := [(2, .int (-8)), (0, .ref (ad 1)), (1, .int p1)]) hx hb dX7_addFour_40 hl (k := 0) rfl (by decide) (by decide) rfl (fun ls hl => ?_)
  refine lv_goto (tgt := 3) hx hb dX7_addFour_43 (by decide) ?_
  refine lv_iload_n hx hb dX7_addFour_3 rfl (lv_at hl 0 rfl) ?_
  refine lv_if_lt (tgt := 46) hx hb dX7_addFour_4 (by decide) (fun _ => ?_) (fun c => absurd (by decide) c)
  exact z_vret () hx hb hr hlocks hK hP hD hS hAe hQ rfl trivial dX7_addFour_46
set_option maxHeartbeats 4000000 in
set_option maxRecDepth 100000 in
theorem c_X7_addFour_13 (l : Launch) (dC : Nat → ClassId) (dI : Nat → Nat → Nat) (cB cI cJ cZ cP cQ : ClassId) (ad : Nat → Nat) (sz : Nat) (p1 : Int32) (g0 : Nat → Int32) : Met l yX7_addFour wsX7_addFour ({ frames := 0, cells := 0, slots := 0, locals := 0 } : Room) (zPc [.ref (ad 1), .int p1] (dC, dI) (zT cB cI cJ cZ cP cQ) [(ad 1, .inr (7, ((xf1 ad).set 1 (.int 8)))), (ad 2, .inl (cB, 600, .inl g0))] sz [] []) (va_Qv (fun _ => True) (zB (dC, dI) (zT cB cI cJ cZ cP cQ) (fun _ : Unit => [(ad 1, .inr (7, ((xf1 ad).set 1 (.int 12)))), (ad 2, .inl (cB, 600, .inl (upd (upd (upd (upd g0 (Int32.toNatClampNeg 8) (vp_nar .byte ((p1 >>> (24 &&& 31)).toInt8.toInt32))) (Int32.toNatClampNeg 9) (vp_nar .byte ((p1 >>> (16 &&& 31)).toInt8.toInt32))) (Int32.toNatClampNeg 10) (vp_nar .byte ((p1 >>> (8 &&& 31)).toInt8.toInt32))) (Int32.toNatClampNeg 11) (vp_nar .byte ((p1 >>> (0 &&& 31)).toInt8.toInt32)))))]) [(ad 1, .inr (7, ((xf1 ad).set 1 (.int 8)))), (ad 2, .inl (cB, 600, .inl g0))] sz) (va_A [(ad 1, .inr (7, ((xf1 ad).set 1 (.int 8)))), (ad 2, .inl (cB, 600, .inl g0))] sz)) 0 0 (va_A [(ad 1, .inr (7, ((xf1 ad).set 1 (.int 8)))), (ad 2, .inl (cB, 600, .inl g0))] sz) := by
  refine z_enter (cc := cX7_addFour) (maxL := 3) (ret := none) (by decide) rfl (Nat.le_of_ble_eq_true rfl) ?_
  intro p e s m below meth c A ls Q H locs hx hb hr hml hown hts hlocks hin hK hP hD hA hX hS hAe hQ hl
  have hown : s.vm.findClass RX7 = some m.cls := hown
  have hi7 : ∀ w ∈ wsX70, w ∈ wsX7_addFour := fun w h => List.mem_cons_of_mem _ (List.mem_append_right _ h)
  have hk0 := hts (.fieldLink RX7 19 "MonthPush$Tape" "length" "I") (by decide +kernel)
  have hk1 := hts (.fieldLink RX7 9 "MonthPush$Tape" "text" "[B") (by decide +kernel)
  have hl : lv_has ls 3 [(0, .ref (ad 1)), (1, .int p1)] := hl
  refine lv_bipush (v := 24) hx hb dX7_addFour_0 (by decide) ?_
  refine lv_istore_n (lv' := [(2, .int 24), (0, .ref (ad 1)), (1, .int p1)]) hx hb dX7_addFour_2 rfl hl (by decide) rfl (fun ls hl => ?_)
  refine lv_iload_n hx hb dX7_addFour_3 rfl (lv_at hl 0 rfl) ?_
  refine lv_if_lt (tgt := 46) hx hb dX7_addFour_4 (by decide) (fun c => absurd c (by decide)) (fun _ => ?_)
  refine lv_aload_n hx hb dX7_addFour_7 rfl (lv_at hl 1 rfl) ?_
  refine va_get (D := (dC, dI)) (ci := 7) (v := .int 8) (C := RX7) (T := TX7) (N := 8) hx hb hts hi7 hown hK hP 0 rfl rfl 1 (by decide) hk0 (fun _ h9 => h9) rfl dX7_addFour_8 ?_
  refine lv_sipush (v := 600) hx hb dX7_addFour_11 (by decide) ?_
  refine lv_icmp_ge (tgt := 46) hx hb dX7_addFour_14 (by decide) (fun c => absurd c (by decide)) (fun _ => ?_)
  refine lv_aload_n hx hb dX7_addFour_17 rfl (lv_at hl 1 rfl) ?_
  refine va_get (D := (dC, dI)) (ci := 7) (v := .ref (ad 2)) (C := RX7) (T := TX7) (N := 8) hx hb hts hi7 hown hK hP 0 rfl rfl 0 (by decide) hk1 (fun _ h9 => h9) rfl dX7_addFour_18 ?_
  refine lv_aload_n hx hb dX7_addFour_21 rfl (lv_at hl 1 rfl) ?_
  refine va_get (D := (dC, dI)) (ci := 7) (v := .int 8) (C := RX7) (T := TX7) (N := 8) hx hb hts hi7 hown hK hP 0 rfl rfl 1 (by decide) hk0 (fun _ h9 => h9) rfl dX7_addFour_22 ?_
  refine lv_iload_n hx hb dX7_addFour_25 rfl (lv_at hl 2 rfl) ?_
  refine lv_iload_n hx hb dX7_addFour_26 rfl (lv_at hl 0 rfl) ?_
  refine lv_ishr hx hb dX7_addFour_27 ?_
  refine lv_i2b hx hb dX7_addFour_28 rfl ?_
  refine va_bast hx hb hK hP hD hS 1 0 rfl rfl (z_in (a := 8) (by decide) (by decide) (by decide)) dX7_addFour_29 (fun H locs hP hD hS => ?_)
  have hP : va_P (dC, dI) vwCl [(ad 1, .inr (7, ((xf1 ad).set 1 (.int 8)))), (ad 2, .inl (cB, 600, .inl (upd g0 (Int32.toNatClampNeg 8) (vp_nar .byte ((p1 >>> (24 &&& 31)).toInt8.toInt32)))))] H := hP
  have hD : va_D A [(ad 1, .inr (7, ((xf1 ad).set 1 (.int 8)))), (ad 2, .inl (cB, 600, .inl (upd g0 (Int32.toNatClampNeg 8) (vp_nar .byte ((p1 >>> (24 &&& 31)).toInt8.toInt32)))))] := hD
  refine lv_aload_n hx hb dX7_addFour_30 rfl (lv_at hl 1 rfl) ?_
  refine lv_dup hx hb dX7_addFour_31 rfl ?_
  refine va_get (D := (dC, dI)) (ci := 7) (v := .int 8) (C := RX7) (T := TX7) (N := 8) hx hb hts hi7 hown hK hP 0 rfl rfl 1 (by decide) hk0 (fun _ h9 => h9) rfl dX7_addFour_32 ?_
  refine lv_iconst (v := 1) hx hb dX7_addFour_35 (by decide) ?_
  refine lv_iadd hx hb dX7_addFour_36 ?_
  refine z_topi (y := 9) (by decide +kernel) ?_
  refine va_put (D := (dC, dI)) (ci := 7) (v := .int 9) (ty := .int) (C := RX7) (T := TX7) (N := 8) hx hb hts hi7 tyX7 tyX7_ok nmX7 hown hK hP hD hS 0 rfl rfl 1 (by decide) hk0 (fun _ h9 => h9) rfl (by decide +kernel) rfl rfl (Nat.le_of_ble_eq_true rfl) dX7_addFour_37 (fun H locs hP hD hS => ?_)
  have hP : va_P (dC, dI) vwCl [(ad 1, .inr (7, ((xf1 ad).set 1 (.int 9)))), (ad 2, .inl (cB, 600, .inl (upd g0 (Int32.toNatClampNeg 8) (vp_nar .byte ((p1 >>> (24 &&& 31)).toInt8.toInt32)))))] H := hP
  have hD : va_D A [(ad 1, .inr (7, ((xf1 ad).set 1 (.int 9)))), (ad 2, .inl (cB, 600, .inl (upd g0 (Int32.toNatClampNeg 8) (vp_nar .byte ((p1 >>> (24 &&& 31)).toInt8.toInt32)))))] := hD
  refine lv_iinc (v := 16) (lv' := [(2, .int 16), (0, .ref (ad 1)), (1, .int p1)]) hx hb dX7_addFour_40 hl (k := 0) rfl (by decide) (by decide) rfl (fun ls hl => ?_)
  refine lv_goto (tgt := 3) hx hb dX7_addFour_43 (by decide) ?_
  refine lv_iload_n hx hb dX7_addFour_3 rfl (lv_at hl 0 rfl) ?_
  refine lv_if_lt (tgt := 46) hx hb dX7_addFour_4 (by decide) (fun c => absurd c (by decide)) (fun _ => ?_)
  refine lv_aload_n hx hb dX7_addFour_7 rfl (lv_at hl 1 rfl) ?_
  refine va_get (D := (dC, dI)) (ci := 7) (v := .int 9) (C := RX7) (T := TX7) (N := 8) hx hb hts hi7 hown hK hP 0 rfl rfl 1 (by decide) hk0 (fun _ h9 => h9) rfl dX7_addFour_8 ?_
  refine lv_sipush (v := 600) hx hb dX7_addFour_11 (by decide) ?_
  refine lv_icmp_ge (tgt := 46) hx hb dX7_addFour_14 (by decide) (fun c => absurd c (by decide)) (fun _ => ?_)
  refine lv_aload_n hx hb dX7_addFour_17 rfl (lv_at hl 1 rfl) ?_
  refine va_get (D := (dC, dI)) (ci := 7) (v := .ref (ad 2)) (C := RX7) (T := TX7) (N := 8) hx hb hts hi7 hown hK hP 0 rfl rfl 0 (by decide) hk1 (fun _ h9 => h9) rfl dX7_addFour_18 ?_
  refine lv_aload_n hx hb dX7_addFour_21 rfl (lv_at hl 1 rfl) ?_
  refine va_get (D := (dC, dI)) (ci := 7) (v := .int 9) (C := RX7) (T := TX7) (N := 8) hx hb hts hi7 hown hK hP 0 rfl rfl 1 (by decide) hk0 (fun _ h9 => h9) rfl dX7_addFour_22 ?_
  refine lv_iload_n hx hb dX7_addFour_25 rfl (lv_at hl 2 rfl) ?_
  refine lv_iload_n hx hb dX7_addFour_26 rfl (lv_at hl 0 rfl) ?_
  refine lv_ishr hx hb dX7_addFour_27 ?_
  refine lv_i2b hx hb dX7_addFour_28 rfl ?_
  refine va_bast hx hb hK hP hD hS 1 0 rfl rfl (z_in (a := 9) (by decide) (by decide) (by decide)) dX7_addFour_29 (fun H locs hP hD hS => ?_)
  have hP : va_P (dC, dI) vwCl [(ad 1, .inr (7, ((xf1 ad).set 1 (.int 9)))), (ad 2, .inl (cB, 600, .inl (upd (upd g0 (Int32.toNatClampNeg 8) (vp_nar .byte ((p1 >>> (24 &&& 31)).toInt8.toInt32))) (Int32.toNatClampNeg 9) (vp_nar .byte ((p1 >>> (16 &&& 31)).toInt8.toInt32)))))] H := hP
  have hD : va_D A [(ad 1, .inr (7, ((xf1 ad).set 1 (.int 9)))), (ad 2, .inl (cB, 600, .inl (upd (upd g0 (Int32.toNatClampNeg 8) (vp_nar .byte ((p1 >>> (24 &&& 31)).toInt8.toInt32))) (Int32.toNatClampNeg 9) (vp_nar .byte ((p1 >>> (16 &&& 31)).toInt8.toInt32)))))] := hD
  refine lv_aload_n hx hb dX7_addFour_30 rfl (lv_at hl 1 rfl) ?_
  refine lv_dup hx hb dX7_addFour_31 rfl ?_
  refine va_get (D := (dC, dI)) (ci := 7) (v := .int 9) (C := RX7) (T := TX7) (N := 8) hx hb hts hi7 hown hK hP 0 rfl rfl 1 (by decide) hk0 (fun _ h9 => h9) rfl dX7_addFour_32 ?_
  refine lv_iconst (v := 1) hx hb dX7_addFour_35 (by decide) ?_
  refine lv_iadd hx hb dX7_addFour_36 ?_
  refine z_topi (y := 10) (by decide +kernel) ?_
  refine va_put (D := (dC, dI)) (ci := 7) (v := .int 10) (ty := .int) (C := RX7) (T := TX7) (N := 8) hx hb hts hi7 tyX7 tyX7_ok nmX7 hown hK hP hD hS 0 rfl rfl 1 (by decide) hk0 (fun _ h9 => h9) rfl (by decide +kernel) rfl rfl (Nat.le_of_ble_eq_true rfl) dX7_addFour_37 (fun H locs hP hD hS => ?_)
  have hP : va_P (dC, dI) vwCl [(ad 1, .inr (7, ((xf1 ad).set 1 (.int 10)))), (ad 2, .inl (cB, 600, .inl (upd (upd g0 (Int32.toNatClampNeg 8) (vp_nar .byte ((p1 >>> (24 &&& 31)).toInt8.toInt32))) (Int32.toNatClampNeg 9) (vp_nar .byte ((p1 >>> (16 &&& 31)).toInt8.toInt32)))))] H := hP
  have hD : va_D A [(ad 1, .inr (7, ((xf1 ad).set 1 (.int 10)))), (ad 2, .inl (cB, 600, .inl (upd (upd g0 (Int32.toNatClampNeg 8) (vp_nar .byte ((p1 >>> (24 &&& 31)).toInt8.toInt32))) (Int32.toNatClampNeg 9) (vp_nar .byte ((p1 >>> (16 &&& 31)).toInt8.toInt32)))))] := hD
  refine lv_iinc (v := 8) (lv' := [(2, .int 8), (0, .ref (ad 1)), (1, .int p1)]) hx hb dX7_addFour_40 hl (k := 0) rfl (by decide) (by decide) rfl (fun ls hl => ?_)
  refine lv_goto (tgt := 3) hx hb dX7_addFour_43 (by decide) ?_
  refine lv_iload_n hx hb dX7_addFour_3 rfl (lv_at hl 0 rfl) ?_
  refine lv_if_lt (tgt := 46) hx hb dX7_addFour_4 (by decide) (fun c => absurd c (by decide)) (fun _ => ?_)
  refine lv_aload_n hx hb dX7_addFour_7 rfl (lv_at hl 1 rfl) ?_
  refine va_get (D := (dC, dI)) (ci := 7) (v := .int 10) (C := RX7) (T := TX7) (N := 8) hx hb hts hi7 hown hK hP 0 rfl rfl 1 (by decide) hk0 (fun _ h9 => h9) rfl dX7_addFour_8 ?_
  refine lv_sipush (v := 600) hx hb dX7_addFour_11 (by decide) ?_
  refine lv_icmp_ge (tgt := 46) hx hb dX7_addFour_14 (by decide) (fun c => absurd c (by decide)) (fun _ => ?_)
  refine lv_aload_n hx hb dX7_addFour_17 rfl (lv_at hl 1 rfl) ?_
  refine va_get (D := (dC, dI)) (ci := 7) (v := .ref (ad 2)) (C := RX7) (T := TX7) (N := 8) hx hb hts hi7 hown hK hP 0 rfl rfl 0 (by decide) hk1 (fun _ h9 => h9) rfl dX7_addFour_18 ?_
  refine lv_aload_n hx hb dX7_addFour_21 rfl (lv_at hl 1 rfl) ?_
  refine va_get (D := (dC, dI)) (ci := 7) (v := .int 10) (C := RX7) (T := TX7) (N := 8) hx hb hts hi7 hown hK hP 0 rfl rfl 1 (by decide) hk0 (fun _ h9 => h9) rfl dX7_addFour_22 ?_
  refine lv_iload_n hx hb dX7_addFour_25 rfl (lv_at hl 2 rfl) ?_
  refine lv_iload_n hx hb dX7_addFour_26 rfl (lv_at hl 0 rfl) ?_
  refine lv_ishr hx hb dX7_addFour_27 ?_
  refine lv_i2b hx hb dX7_addFour_28 rfl ?_
  refine va_bast hx hb hK hP hD hS 1 0 rfl rfl (z_in (a := 10) (by decide) (by decide) (by decide)) dX7_addFour_29 (fun H locs hP hD hS => ?_)
  have hP : va_P (dC, dI) vwCl [(ad 1, .inr (7, ((xf1 ad).set 1 (.int 10)))), (ad 2, .inl (cB, 600, .inl (upd (upd (upd g0 (Int32.toNatClampNeg 8) (vp_nar .byte ((p1 >>> (24 &&& 31)).toInt8.toInt32))) (Int32.toNatClampNeg 9) (vp_nar .byte ((p1 >>> (16 &&& 31)).toInt8.toInt32))) (Int32.toNatClampNeg 10) (vp_nar .byte ((p1 >>> (8 &&& 31)).toInt8.toInt32)))))] H := hP
  have hD : va_D A [(ad 1, .inr (7, ((xf1 ad).set 1 (.int 10)))), (ad 2, .inl (cB, 600, .inl (upd (upd (upd g0 (Int32.toNatClampNeg 8) (vp_nar .byte ((p1 >>> (24 &&& 31)).toInt8.toInt32))) (Int32.toNatClampNeg 9) (vp_nar .byte ((p1 >>> (16 &&& 31)).toInt8.toInt32))) (Int32.toNatClampNeg 10) (vp_nar .byte ((p1 >>> (8 &&& 31)).toInt8.toInt32)))))] := hD
  refine lv_aload_n hx hb dX7_addFour_30 rfl (lv_at hl 1 rfl) ?_
  refine lv_dup hx hb dX7_addFour_31 rfl ?_
  refine va_get (D := (dC, dI)) (ci := 7) (v := .int 10) (C := RX7) (T := TX7) (N := 8) hx hb hts hi7 hown hK hP 0 rfl rfl 1 (by decide) hk0 (fun _ h9 => h9) rfl dX7_addFour_32 ?_
  refine lv_iconst (v := 1) hx hb dX7_addFour_35 (by decide) ?_
  refine lv_iadd hx hb dX7_addFour_36 ?_
  refine z_topi (y := 11) (by decide +kernel) ?_
  refine va_put (D := (dC, dI)) (ci := 7) (v := .int 11) (ty := .int) (C := RX7) (T := TX7) (N := 8) hx hb hts hi7 tyX7 tyX7_ok nmX7 hown hK hP hD hS 0 rfl rfl 1 (by decide) hk0 (fun _ h9 => h9) rfl (by decide +kernel) rfl rfl (Nat.le_of_ble_eq_true rfl) dX7_addFour_37 (fun H locs hP hD hS => ?_)
  have hP : va_P (dC, dI) vwCl [(ad 1, .inr (7, ((xf1 ad).set 1 (.int 11)))), (ad 2, .inl (cB, 600, .inl (upd (upd (upd g0 (Int32.toNatClampNeg 8) (vp_nar .byte ((p1 >>> (24 &&& 31)).toInt8.toInt32))) (Int32.toNatClampNeg 9) (vp_nar .byte ((p1 >>> (16 &&& 31)).toInt8.toInt32))) (Int32.toNatClampNeg 10) (vp_nar .byte ((p1 >>> (8 &&& 31)).toInt8.toInt32)))))] H := hP
  have hD : va_D A [(ad 1, .inr (7, ((xf1 ad).set 1 (.int 11)))), (ad 2, .inl (cB, 600, .inl (upd (upd (upd g0 (Int32.toNatClampNeg 8) (vp_nar .byte ((p1 >>> (24 &&& 31)).toInt8.toInt32))) (Int32.toNatClampNeg 9) (vp_nar .byte ((p1 >>> (16 &&& 31)).toInt8.toInt32))) (Int32.toNatClampNeg 10) (vp_nar .byte ((p1 >>> (8 &&& 31)).toInt8.toInt32)))))] := hD
  refine lv_iinc (v := 0) (lv' := [(2, .int 0), (0, .ref (ad 1)), (1, .int p1)]) hx hb dX7_addFour_40 hl (k := 0) rfl (by decide) (by decide) rfl (fun ls hl => ?_)
  refine lv_goto (tgt := 3) hx hb dX7_addFour_43 (by decide) ?_
  refine lv_iload_n hx hb dX7_addFour_3 rfl (lv_at hl 0 rfl) ?_
  refine lv_if_lt (tgt := 46) hx hb dX7_addFour_4 (by decide) (fun c => absurd c (by decide)) (fun _ => ?_)
  refine lv_aload_n hx hb dX7_addFour_7 rfl (lv_at hl 1 rfl) ?_
  refine va_get (D := (dC, dI)) (ci := 7) (v := .int 11) (C := RX7) (T := TX7) (N := 8) hx hb hts hi7 hown hK hP 0 rfl rfl 1 (by decide) hk0 (fun _ h9 => h9) rfl dX7_addFour_8 ?_
  refine lv_sipush (v := 600) hx hb dX7_addFour_11 (by decide) ?_
  refine lv_icmp_ge (tgt := 46) hx hb dX7_addFour_14 (by decide) (fun c => absurd c (by decide)) (fun _ => ?_)
  refine lv_aload_n hx hb dX7_addFour_17 rfl (lv_at hl 1 rfl) ?_
  refine va_get (D := (dC, dI)) (ci := 7) (v := .ref (ad 2)) (C := RX7) (T := TX7) (N := 8) hx hb hts hi7 hown hK hP 0 rfl rfl 0 (by decide) hk1 (fun _ h9 => h9) rfl dX7_addFour_18 ?_
  refine lv_aload_n hx hb dX7_addFour_21 rfl (lv_at hl 1 rfl) ?_
  refine va_get (D := (dC, dI)) (ci := 7) (v := .int 11) (C := RX7) (T := TX7) (N := 8) hx hb hts hi7 hown hK hP 0 rfl rfl 1 (by decide) hk0 (fun _ h9 => h9) rfl dX7_addFour_22 ?_
  refine lv_iload_n hx hb dX7_addFour_25 rfl (lv_at hl 2 rfl) ?_
  refine lv_iload_n hx hb dX7_addFour_26 rfl (lv_at hl 0 rfl) ?_
  refine lv_ishr hx hb dX7_addFour_27 ?_
  refine lv_i2b hx hb dX7_addFour_28 rfl ?_
  refine va_bast hx hb hK hP hD hS 1 0 rfl rfl (z_in (a := 11) (by decide) (by decide) (by decide)) dX7_addFour_29 (fun H locs hP hD hS => ?_)
  have hP : va_P (dC, dI) vwCl [(ad 1, .inr (7, ((xf1 ad).set 1 (.int 11)))), (ad 2, .inl (cB, 600, .inl (upd (upd (upd (upd g0 (Int32.toNatClampNeg 8) (vp_nar .byte ((p1 >>> (24 &&& 31)).toInt8.toInt32))) (Int32.toNatClampNeg 9) (vp_nar .byte ((p1 >>> (16 &&& 31)).toInt8.toInt32))) (Int32.toNatClampNeg 10) (vp_nar .byte ((p1 >>> (8 &&& 31)).toInt8.toInt32))) (Int32.toNatClampNeg 11) (vp_nar .byte ((p1 >>> (0 &&& 31)).toInt8.toInt32)))))] H := hP
  have hD : va_D A [(ad 1, .inr (7, ((xf1 ad).set 1 (.int 11)))), (ad 2, .inl (cB, 600, .inl (upd (upd (upd (upd g0 (Int32.toNatClampNeg 8) (vp_nar .byte ((p1 >>> (24 &&& 31)).toInt8.toInt32))) (Int32.toNatClampNeg 9) (vp_nar .byte ((p1 >>> (16 &&& 31)).toInt8.toInt32))) (Int32.toNatClampNeg 10) (vp_nar .byte ((p1 >>> (8 &&& 31)).toInt8.toInt32))) (Int32.toNatClampNeg 11) (vp_nar .byte ((p1 >>> (0 &&& 31)).toInt8.toInt32)))))] := hD
  refine lv_aload_n hx hb dX7_addFour_30 rfl (lv_at hl 1 rfl) ?_
  refine lv_dup hx hb dX7_addFour_31 rfl ?_
  refine va_get (D := (dC, dI)) (ci := 7) (v := .int 11) (C := RX7) (T := TX7) (N := 8) hx hb hts hi7 hown hK hP 0 rfl rfl 1 (by decide) hk0 (fun _ h9 => h9) rfl dX7_addFour_32 ?_
  refine lv_iconst (v := 1) hx hb dX7_addFour_35 (by decide) ?_
  refine lv_iadd hx hb dX7_addFour_36 ?_
  refine z_topi (y := 12) (by decide +kernel) ?_
  refine va_put (D := (dC, dI)) (ci := 7) (v := .int 12) (ty := .int) (C := RX7) (T := TX7) (N := 8) hx hb hts hi7 tyX7 tyX7_ok nmX7 hown hK hP hD hS 0 rfl rfl 1 (by decide) hk0 (fun _ h9 => h9) rfl (by decide +kernel) rfl rfl (Nat.le_of_ble_eq_true rfl) dX7_addFour_37 (fun H locs hP hD hS => ?_)
  have hP : va_P (dC, dI) vwCl [(ad 1, .inr (7, ((xf1 ad).set 1 (.int 12)))), (ad 2, .inl (cB, 600, .inl (upd (upd (upd (upd g0 (Int32.toNatClampNeg 8) (vp_nar .byte ((p1 >>> (24 &&& 31)).toInt8.toInt32))) (Int32.toNatClampNeg 9) (vp_nar .byte ((p1 >>> (16 &&& 31)).toInt8.toInt32))) (Int32.toNatClampNeg 10) (vp_nar .byte ((p1 >>> (8 &&& 31)).toInt8.toInt32))) (Int32.toNatClampNeg 11) (vp_nar .byte ((p1 >>> (0 &&& 31)).toInt8.toInt32)))))] H := hP
  have hD : va_D A [(ad 1, .inr (7, ((xf1 ad).set 1 (.int 12)))), (ad 2, .inl (cB, 600, .inl (upd (upd (upd (upd g0 (Int32.toNatClampNeg 8) (vp_nar .byte ((p1 >>> (24 &&& 31)).toInt8.toInt32))) (Int32.toNatClampNeg 9) (vp_nar .byte ((p1 >>> (16 &&& 31)).toInt8.toInt32))) (Int32.toNatClampNeg 10) (vp_nar .byte ((p1 >>> (8 &&& 31)).toInt8.toInt32))) (Int32.toNatClampNeg 11) (vp_nar .byte ((p1 >>> (0 &&& 31)).toInt8.toInt32)))))] := hD
  refine lv_iinc (v := (-8)) (lv' := [(2, .int (-8)), (0, .ref (ad 1)), (1, .int p1)]) hx hb dX7_addFour_40 hl (k := 0) rfl (by decide) (by decide) rfl (fun ls hl => ?_)
  refine lv_goto (tgt := 3) hx hb dX7_addFour_43 (by decide) ?_
  refine lv_iload_n hx hb dX7_addFour_3 rfl (lv_at hl 0 rfl) ?_
  refine lv_if_lt (tgt := 46) hx hb dX7_addFour_4 (by decide) (fun _ => ?_) (fun c => absurd (by decide) c)
  exact z_vret () hx hb hr hlocks hK hP hD hS hAe hQ rfl trivial dX7_addFour_46
set_option maxHeartbeats 4000000 in
set_option maxRecDepth 100000 in
theorem c_X7_addFour_14 (l : Launch) (dC : Nat → ClassId) (dI : Nat → Nat → Nat) (cB cI cJ cZ cP cQ : ClassId) (ad : Nat → Nat) (sz : Nat) (p1 : Int32) (g0 : Nat → Int32) : Met l yX7_addFour wsX7_addFour ({ frames := 0, cells := 0, slots := 0, locals := 0 } : Room) (zPc [.ref (ad 1), .int p1] (dC, dI) (zT cB cI cJ cZ cP cQ) [(ad 1, .inr (7, ((xf1 ad).set 1 (.int 12)))), (ad 2, .inl (cB, 600, .inl g0))] sz [] []) (va_Qv (fun _ => True) (zB (dC, dI) (zT cB cI cJ cZ cP cQ) (fun _ : Unit => [(ad 1, .inr (7, ((xf1 ad).set 1 (.int 16)))), (ad 2, .inl (cB, 600, .inl (upd (upd (upd (upd g0 (Int32.toNatClampNeg 12) (vp_nar .byte ((p1 >>> (24 &&& 31)).toInt8.toInt32))) (Int32.toNatClampNeg 13) (vp_nar .byte ((p1 >>> (16 &&& 31)).toInt8.toInt32))) (Int32.toNatClampNeg 14) (vp_nar .byte ((p1 >>> (8 &&& 31)).toInt8.toInt32))) (Int32.toNatClampNeg 15) (vp_nar .byte ((p1 >>> (0 &&& 31)).toInt8.toInt32)))))]) [(ad 1, .inr (7, ((xf1 ad).set 1 (.int 12)))), (ad 2, .inl (cB, 600, .inl g0))] sz) (va_A [(ad 1, .inr (7, ((xf1 ad).set 1 (.int 12)))), (ad 2, .inl (cB, 600, .inl g0))] sz)) 0 0 (va_A [(ad 1, .inr (7, ((xf1 ad).set 1 (.int 12)))), (ad 2, .inl (cB, 600, .inl g0))] sz) := by
  refine z_enter (cc := cX7_addFour) (maxL := 3) (ret := none) (by decide) rfl (Nat.le_of_ble_eq_true rfl) ?_
  intro p e s m below meth c A ls Q H locs hx hb hr hml hown hts hlocks hin hK hP hD hA hX hS hAe hQ hl
  have hown : s.vm.findClass RX7 = some m.cls := hown
  have hi7 : ∀ w ∈ wsX70, w ∈ wsX7_addFour := fun w h => List.mem_cons_of_mem _ (List.mem_append_right _ h)
  have hk0 := hts (.fieldLink RX7 19 "MonthPush$Tape" "length" "I") (by decide +kernel)
  have hk1 := hts (.fieldLink RX7 9 "MonthPush$Tape" "text" "[B") (by decide +kernel)
  have hl : lv_has ls 3 [(0, .ref (ad 1)), (1, .int p1)] := hl
  refine lv_bipush (v := 24) hx hb dX7_addFour_0 (by decide) ?_
  refine lv_istore_n (lv' := [(2, .int 24), (0, .ref (ad 1)), (1, .int p1)]) hx hb dX7_addFour_2 rfl hl (by decide) rfl (fun ls hl => ?_)
  refine lv_iload_n hx hb dX7_addFour_3 rfl (lv_at hl 0 rfl) ?_
  refine lv_if_lt (tgt := 46) hx hb dX7_addFour_4 (by decide) (fun c => absurd c (by decide)) (fun _ => ?_)
  refine lv_aload_n hx hb dX7_addFour_7 rfl (lv_at hl 1 rfl) ?_
  refine va_get (D := (dC, dI)) (ci := 7) (v := .int 12) (C := RX7) (T := TX7) (N := 8) hx hb hts hi7 hown hK hP 0 rfl rfl 1 (by decide) hk0 (fun _ h9 => h9) rfl dX7_addFour_8 ?_
  refine lv_sipush (v := 600) hx hb dX7_addFour_11 (by decide) ?_
  refine lv_icmp_ge (tgt := 46) hx hb dX7_addFour_14 (by decide) (fun c => absurd c (by decide)) (fun _ => ?_)
  refine lv_aload_n hx hb dX7_addFour_17 rfl (lv_at hl 1 rfl) ?_
  refine va_get (D := (dC, dI)) (ci := 7) (v := .ref (ad 2)) (C := RX7) (T := TX7) (N := 8) hx hb hts hi7 hown hK hP 0 rfl rfl 0 (by decide) hk1 (fun _ h9 => h9) rfl dX7_addFour_18 ?_
  refine lv_aload_n hx hb dX7_addFour_21 rfl (lv_at hl 1 rfl) ?_
  refine va_get (D := (dC, dI)) (ci := 7) (v := .int 12) (C := RX7) (T := TX7) (N := 8) hx hb hts hi7 hown hK hP 0 rfl rfl 1 (by decide) hk0 (fun _ h9 => h9) rfl dX7_addFour_22 ?_
  refine lv_iload_n hx hb dX7_addFour_25 rfl (lv_at hl 2 rfl) ?_
  refine lv_iload_n hx hb dX7_addFour_26 rfl (lv_at hl 0 rfl) ?_
  refine lv_ishr hx hb dX7_addFour_27 ?_
  refine lv_i2b hx hb dX7_addFour_28 rfl ?_
  refine va_bast hx hb hK hP hD hS 1 0 rfl rfl (z_in (a := 12) (by decide) (by decide) (by decide)) dX7_addFour_29 (fun H locs hP hD hS => ?_)
  have hP : va_P (dC, dI) vwCl [(ad 1, .inr (7, ((xf1 ad).set 1 (.int 12)))), (ad 2, .inl (cB, 600, .inl (upd g0 (Int32.toNatClampNeg 12) (vp_nar .byte ((p1 >>> (24 &&& 31)).toInt8.toInt32)))))] H := hP
  have hD : va_D A [(ad 1, .inr (7, ((xf1 ad).set 1 (.int 12)))), (ad 2, .inl (cB, 600, .inl (upd g0 (Int32.toNatClampNeg 12) (vp_nar .byte ((p1 >>> (24 &&& 31)).toInt8.toInt32)))))] := hD
  refine lv_aload_n hx hb dX7_addFour_30 rfl (lv_at hl 1 rfl) ?_
  refine lv_dup hx hb dX7_addFour_31 rfl ?_
  refine va_get (D := (dC, dI)) (ci := 7) (v := .int 12) (C := RX7) (T := TX7) (N := 8) hx hb hts hi7 hown hK hP 0 rfl rfl 1 (by decide) hk0 (fun _ h9 => h9) rfl dX7_addFour_32 ?_
  refine lv_iconst (v := 1) hx hb dX7_addFour_35 (by decide) ?_
  refine lv_iadd hx hb dX7_addFour_36 ?_
  refine z_topi (y := 13) (by decide +kernel) ?_
  refine va_put (D := (dC, dI)) (ci := 7) (v := .int 13) (ty := .int) (C := RX7) (T := TX7) (N := 8) hx hb hts hi7 tyX7 tyX7_ok nmX7 hown hK hP hD hS 0 rfl rfl 1 (by decide) hk0 (fun _ h9 => h9) rfl (by decide +kernel) rfl rfl (Nat.le_of_ble_eq_true rfl) dX7_addFour_37 (fun H locs hP hD hS => ?_)
  have hP : va_P (dC, dI) vwCl [(ad 1, .inr (7, ((xf1 ad).set 1 (.int 13)))), (ad 2, .inl (cB, 600, .inl (upd g0 (Int32.toNatClampNeg 12) (vp_nar .byte ((p1 >>> (24 &&& 31)).toInt8.toInt32)))))] H := hP
  have hD : va_D A [(ad 1, .inr (7, ((xf1 ad).set 1 (.int 13)))), (ad 2, .inl (cB, 600, .inl (upd g0 (Int32.toNatClampNeg 12) (vp_nar .byte ((p1 >>> (24 &&& 31)).toInt8.toInt32)))))] := hD
  refine lv_iinc (v := 16) (lv' := [(2, .int 16), (0, .ref (ad 1)), (1, .int p1)]) hx hb dX7_addFour_40 hl (k := 0) rfl (by decide) (by decide) rfl (fun ls hl => ?_)
  refine lv_goto (tgt := 3) hx hb dX7_addFour_43 (by decide) ?_
  refine lv_iload_n hx hb dX7_addFour_3 rfl (lv_at hl 0 rfl) ?_
  refine lv_if_lt (tgt := 46) hx hb dX7_addFour_4 (by decide) (fun c => absurd c (by decide)) (fun _ => ?_)
  refine lv_aload_n hx hb dX7_addFour_7 rfl (lv_at hl 1 rfl) ?_
  refine va_get (D := (dC, dI)) (ci := 7) (v := .int 13) (C := RX7) (T := TX7) (N := 8) hx hb hts hi7 hown hK hP 0 rfl rfl 1 (by decide) hk0 (fun _ h9 => h9) rfl dX7_addFour_8 ?_
  refine lv_sipush (v := 600) hx hb dX7_addFour_11 (by decide) ?_
  refine lv_icmp_ge (tgt := 46) hx hb dX7_addFour_14 (by decide) (fun c => absurd c (by decide)) (fun _ => ?_)
  refine lv_aload_n hx hb dX7_addFour_17 rfl (lv_at hl 1 rfl) ?_
  refine va_get (D := (dC, dI)) (ci := 7) (v := .ref (ad 2)) (C := RX7) (T := TX7) (N := 8) hx hb hts hi7 hown hK hP 0 rfl rfl 0 (by decide) hk1 (fun _ h9 => h9) rfl dX7_addFour_18 ?_
  refine lv_aload_n hx hb dX7_addFour_21 rfl (lv_at hl 1 rfl) ?_
  refine va_get (D := (dC, dI)) (ci := 7) (v := .int 13) (C := RX7) (T := TX7) (N := 8) hx hb hts hi7 hown hK hP 0 rfl rfl 1 (by decide) hk0 (fun _ h9 => h9) rfl dX7_addFour_22 ?_
  refine lv_iload_n hx hb dX7_addFour_25 rfl (lv_at hl 2 rfl) ?_
  refine lv_iload_n hx hb dX7_addFour_26 rfl (lv_at hl 0 rfl) ?_
  refine lv_ishr hx hb dX7_addFour_27 ?_
  refine lv_i2b hx hb dX7_addFour_28 rfl ?_
  refine va_bast hx hb hK hP hD hS 1 0 rfl rfl (z_in (a := 13) (by decide) (by decide) (by decide)) dX7_addFour_29 (fun H locs hP hD hS => ?_)
  have hP : va_P (dC, dI) vwCl [(ad 1, .inr (7, ((xf1 ad).set 1 (.int 13)))), (ad 2, .inl (cB, 600, .inl (upd (upd g0 (Int32.toNatClampNeg 12) (vp_nar .byte ((p1 >>> (24 &&& 31)).toInt8.toInt32))) (Int32.toNatClampNeg 13) (vp_nar .byte ((p1 >>> (16 &&& 31)).toInt8.toInt32)))))] H := hP
  have hD : va_D A [(ad 1, .inr (7, ((xf1 ad).set 1 (.int 13)))), (ad 2, .inl (cB, 600, .inl (upd (upd g0 (Int32.toNatClampNeg 12) (vp_nar .byte ((p1 >>> (24 &&& 31)).toInt8.toInt32))) (Int32.toNatClampNeg 13) (vp_nar .byte ((p1 >>> (16 &&& 31)).toInt8.toInt32)))))] := hD
  refine lv_aload_n hx hb dX7_addFour_30 rfl (lv_at hl 1 rfl) ?_
  refine lv_dup hx hb dX7_addFour_31 rfl ?_
  refine va_get (D := (dC, dI)) (ci := 7) (v := .int 13) (C := RX7) (T := TX7) (N := 8) hx hb hts hi7 hown hK hP 0 rfl rfl 1 (by decide) hk0 (fun _ h9 => h9) rfl dX7_addFour_32 ?_
  refine lv_iconst (v := 1) hx hb dX7_addFour_35 (by decide) ?_
  refine lv_iadd hx hb dX7_addFour_36 ?_
  refine z_topi (y := 14) (by decide +kernel) ?_
  refine va_put (D := (dC, dI)) (ci := 7) (v := .int 14) (ty := .int) (C := RX7) (T := TX7) (N := 8) hx hb hts hi7 tyX7 tyX7_ok nmX7 hown hK hP hD hS 0 rfl rfl 1 (by decide) hk0 (fun _ h9 => h9) rfl (by decide +kernel) rfl rfl (Nat.le_of_ble_eq_true rfl) dX7_addFour_37 (fun H locs hP hD hS => ?_)
  have hP : va_P (dC, dI) vwCl [(ad 1, .inr (7, ((xf1 ad).set 1 (.int 14)))), (ad 2, .inl (cB, 600, .inl (upd (upd g0 (Int32.toNatClampNeg 12) (vp_nar .byte ((p1 >>> (24 &&& 31)).toInt8.toInt32))) (Int32.toNatClampNeg 13) (vp_nar .byte ((p1 >>> (16 &&& 31)).toInt8.toInt32)))))] H := hP
  have hD : va_D A [(ad 1, .inr (7, ((xf1 ad).set 1 (.int 14)))), (ad 2, .inl (cB, 600, .inl (upd (upd g0 (Int32.toNatClampNeg 12) (vp_nar .byte ((p1 >>> (24 &&& 31)).toInt8.toInt32))) (Int32.toNatClampNeg 13) (vp_nar .byte ((p1 >>> (16 &&& 31)).toInt8.toInt32)))))] := hD
  refine lv_iinc (v := 8) (lv' := [(2, .int 8), (0, .ref (ad 1)), (1, .int p1)]) hx hb dX7_addFour_40 hl (k := 0) rfl (by decide) (by decide) rfl (fun ls hl => ?_)
  refine lv_goto (tgt := 3) hx hb dX7_addFour_43 (by decide) ?_
  refine lv_iload_n hx hb dX7_addFour_3 rfl (lv_at hl 0 rfl) ?_
  refine lv_if_lt (tgt := 46) hx hb dX7_addFour_4 (by decide) (fun c => absurd c (by decide)) (fun _ => ?_)
  refine lv_aload_n hx hb dX7_addFour_7 rfl (lv_at hl 1 rfl) ?_
  refine va_get (D := (dC, dI)) (ci := 7) (v := .int 14) (C := RX7) (T := TX7) (N := 8) hx hb hts hi7 hown hK hP 0 rfl rfl 1 (by decide) hk0 (fun _ h9 => h9) rfl dX7_addFour_8 ?_
  refine lv_sipush (v := 600) hx hb dX7_addFour_11 (by decide) ?_
  refine lv_icmp_ge (tgt := 46) hx hb dX7_addFour_14 (by decide) (fun c => absurd c (by decide)) (fun _ => ?_)
  refine lv_aload_n hx hb dX7_addFour_17 rfl (lv_at hl 1 rfl) ?_
  refine va_get (D := (dC, dI)) (ci := 7) (v := .ref (ad 2)) (C := RX7) (T := TX7) (N := 8) hx hb hts hi7 hown hK hP 0 rfl rfl 0 (by decide) hk1 (fun _ h9 => h9) rfl dX7_addFour_18 ?_
  refine lv_aload_n hx hb dX7_addFour_21 rfl (lv_at hl 1 rfl) ?_
  refine va_get (D := (dC, dI)) (ci := 7) (v := .int 14) (C := RX7) (T := TX7) (N := 8) hx hb hts hi7 hown hK hP 0 rfl rfl 1 (by decide) hk0 (fun _ h9 => h9) rfl dX7_addFour_22 ?_
  refine lv_iload_n hx hb dX7_addFour_25 rfl (lv_at hl 2 rfl) ?_
  refine lv_iload_n hx hb dX7_addFour_26 rfl (lv_at hl 0 rfl) ?_
  refine lv_ishr hx hb dX7_addFour_27 ?_
  refine lv_i2b hx hb dX7_addFour_28 rfl ?_
  refine va_bast hx hb hK hP hD hS 1 0 rfl rfl (z_in (a := 14) (by decide) (by decide) (by decide)) dX7_addFour_29 (fun H locs hP hD hS => ?_)
  have hP : va_P (dC, dI) vwCl [(ad 1, .inr (7, ((xf1 ad).set 1 (.int 14)))), (ad 2, .inl (cB, 600, .inl (upd (upd (upd g0 (Int32.toNatClampNeg 12) (vp_nar .byte ((p1 >>> (24 &&& 31)).toInt8.toInt32))) (Int32.toNatClampNeg 13) (vp_nar .byte ((p1 >>> (16 &&& 31)).toInt8.toInt32))) (Int32.toNatClampNeg 14) (vp_nar .byte ((p1 >>> (8 &&& 31)).toInt8.toInt32)))))] H := hP
  have hD : va_D A [(ad 1, .inr (7, ((xf1 ad).set 1 (.int 14)))), (ad 2, .inl (cB, 600, .inl (upd (upd (upd g0 (Int32.toNatClampNeg 12) (vp_nar .byte ((p1 >>> (24 &&& 31)).toInt8.toInt32))) (Int32.toNatClampNeg 13) (vp_nar .byte ((p1 >>> (16 &&& 31)).toInt8.toInt32))) (Int32.toNatClampNeg 14) (vp_nar .byte ((p1 >>> (8 &&& 31)).toInt8.toInt32)))))] := hD
  refine lv_aload_n hx hb dX7_addFour_30 rfl (lv_at hl 1 rfl) ?_
  refine lv_dup hx hb dX7_addFour_31 rfl ?_
  refine va_get (D := (dC, dI)) (ci := 7) (v := .int 14) (C := RX7) (T := TX7) (N := 8) hx hb hts hi7 hown hK hP 0 rfl rfl 1 (by decide) hk0 (fun _ h9 => h9) rfl dX7_addFour_32 ?_
  refine lv_iconst (v := 1) hx hb dX7_addFour_35 (by decide) ?_
  refine lv_iadd hx hb dX7_addFour_36 ?_
  refine z_topi (y := 15) (by decide +kernel) ?_
  refine va_put (D := (dC, dI)) (ci := 7) (v := .int 15) (ty := .int) (C := RX7) (T := TX7) (N := 8) hx hb hts hi7 tyX7 tyX7_ok nmX7 hown hK hP hD hS 0 rfl rfl 1 (by decide) hk0 (fun _ h9 => h9) rfl (by decide +kernel) rfl rfl (Nat.le_of_ble_eq_true rfl) dX7_addFour_37 (fun H locs hP hD hS => ?_)
  have hP : va_P (dC, dI) vwCl [(ad 1, .inr (7, ((xf1 ad).set 1 (.int 15)))), (ad 2, .inl (cB, 600, .inl (upd (upd (upd g0 (Int32.toNatClampNeg 12) (vp_nar .byte ((p1 >>> (24 &&& 31)).toInt8.toInt32))) (Int32.toNatClampNeg 13) (vp_nar .byte ((p1 >>> (16 &&& 31)).toInt8.toInt32))) (Int32.toNatClampNeg 14) (vp_nar .byte ((p1 >>> (8 &&& 31)).toInt8.toInt32)))))] H := hP
  have hD : va_D A [(ad 1, .inr (7, ((xf1 ad).set 1 (.int 15)))), (ad 2, .inl (cB, 600, .inl (upd (upd (upd g0 (Int32.toNatClampNeg 12) (vp_nar .byte ((p1 >>> (24 &&& 31)).toInt8.toInt32))) (Int32.toNatClampNeg 13) (vp_nar .byte ((p1 >>> (16 &&& 31)).toInt8.toInt32))) (Int32.toNatClampNeg 14) (vp_nar .byte ((p1 >>> (8 &&& 31)).toInt8.toInt32)))))] := hD
  refine lv_iinc (v := 0) (lv' := [(2, .int 0), (0, .ref (ad 1)), (1, .int p1)]) hx hb dX7_addFour_40 hl (k := 0) rfl (by decide) (by decide) rfl (fun ls hl => ?_)
  refine lv_goto (tgt := 3) hx hb dX7_addFour_43 (by decide) ?_
  refine lv_iload_n hx hb dX7_addFour_3 rfl (lv_at hl 0 rfl) ?_
  refine lv_if_lt (tgt := 46) hx hb dX7_addFour_4 (by decide) (fun c => absurd c (by decide)) (fun _ => ?_)
  refine lv_aload_n hx hb dX7_addFour_7 rfl (lv_at hl 1 rfl) ?_
  refine va_get (D := (dC, dI)) (ci := 7) (v := .int 15) (C := RX7) (T := TX7) (N := 8) hx hb hts hi7 hown hK hP 0 rfl rfl 1 (by decide) hk0 (fun _ h9 => h9) rfl dX7_addFour_8 ?_
  refine lv_sipush (v := 600) hx hb dX7_addFour_11 (by decide) ?_
  refine lv_icmp_ge (tgt := 46) hx hb dX7_addFour_14 (by decide) (fun c => absurd c (by decide)) (fun _ => ?_)
  refine lv_aload_n hx hb dX7_addFour_17 rfl (lv_at hl 1 rfl) ?_
  refine va_get (D := (dC, dI)) (ci := 7) (v := .ref (ad 2)) (C := RX7) (T := TX7) (N := 8) hx hb hts hi7 hown hK hP 0 rfl rfl 0 (by decide) hk1 (fun _ h9 => h9) rfl dX7_addFour_18 ?_
  refine lv_aload_n hx hb dX7_addFour_21 rfl (lv_at hl 1 rfl) ?_
  refine va_get (D := (dC, dI)) (ci := 7) (v := .int 15) (C := RX7) (T := TX7) (N := 8) hx hb hts hi7 hown hK hP 0 rfl rfl 1 (by decide) hk0 (fun _ h9 => h9) rfl dX7_addFour_22 ?_
  refine lv_iload_n hx hb dX7_addFour_25 rfl (lv_at hl 2 rfl) ?_
  refine lv_iload_n hx hb dX7_addFour_26 rfl (lv_at hl 0 rfl) ?_
  refine lv_ishr hx hb dX7_addFour_27 ?_
  refine lv_i2b hx hb dX7_addFour_28 rfl ?_
  refine va_bast hx hb hK hP hD hS 1 0 rfl rfl (z_in (a := 15) (by decide) (by decide) (by decide)) dX7_addFour_29 (fun H locs hP hD hS => ?_)
  have hP : va_P (dC, dI) vwCl [(ad 1, .inr (7, ((xf1 ad).set 1 (.int 15)))), (ad 2, .inl (cB, 600, .inl (upd (upd (upd (upd g0 (Int32.toNatClampNeg 12) (vp_nar .byte ((p1 >>> (24 &&& 31)).toInt8.toInt32))) (Int32.toNatClampNeg 13) (vp_nar .byte ((p1 >>> (16 &&& 31)).toInt8.toInt32))) (Int32.toNatClampNeg 14) (vp_nar .byte ((p1 >>> (8 &&& 31)).toInt8.toInt32))) (Int32.toNatClampNeg 15) (vp_nar .byte ((p1 >>> (0 &&& 31)).toInt8.toInt32)))))] H := hP
  have hD : va_D A [(ad 1, .inr (7, ((xf1 ad).set 1 (.int 15)))), (ad 2, .inl (cB, 600, .inl (upd (upd (upd (upd g0 (Int32.toNatClampNeg 12) (vp_nar .byte ((p1 >>> (24 &&& 31)).toInt8.toInt32))) (Int32.toNatClampNeg 13) (vp_nar .byte ((p1 >>> (16 &&& 31)).toInt8.toInt32))) (Int32.toNatClampNeg 14) (vp_nar .byte ((p1 >>> (8 &&& 31)).toInt8.toInt32))) (Int32.toNatClampNeg 15) (vp_nar .byte ((p1 >>> (0 &&& 31)).toInt8.toInt32)))))] := hD
  refine lv_aload_n hx hb dX7_addFour_30 rfl (lv_at hl 1 rfl) ?_
  refine lv_dup hx hb dX7_addFour_31 rfl ?_
  refine va_get (D := (dC, dI)) (ci := 7) (v := .int 15) (C := RX7) (T := TX7) (N := 8) hx hb hts hi7 hown hK hP 0 rfl rfl 1 (by decide) hk0 (fun _ h9 => h9) rfl dX7_addFour_32 ?_
  refine lv_iconst (v := 1) hx hb dX7_addFour_35 (by decide) ?_
  refine lv_iadd hx hb dX7_addFour_36 ?_
  refine z_topi (y := 16) (by decide +kernel) ?_
  refine va_put (D := (dC, dI)) (ci := 7) (v := .int 16) (ty := .int) (C := RX7) (T := TX7) (N := 8) hx hb hts hi7 tyX7 tyX7_ok nmX7 hown hK hP hD hS 0 rfl rfl 1 (by decide) hk0 (fun _ h9 => h9) rfl (by decide +kernel) rfl rfl (Nat.le_of_ble_eq_true rfl) dX7_addFour_37 (fun H locs hP hD hS => ?_)
  have hP : va_P (dC, dI) vwCl [(ad 1, .inr (7, ((xf1 ad).set 1 (.int 16)))), (ad 2, .inl (cB, 600, .inl (upd (upd (upd (upd g0 (Int32.toNatClampNeg 12) (vp_nar .byte ((p1 >>> (24 &&& 31)).toInt8.toInt32))) (Int32.toNatClampNeg 13) (vp_nar .byte ((p1 >>> (16 &&& 31)).toInt8.toInt32))) (Int32.toNatClampNeg 14) (vp_nar .byte ((p1 >>> (8 &&& 31)).toInt8.toInt32))) (Int32.toNatClampNeg 15) (vp_nar .byte ((p1 >>> (0 &&& 31)).toInt8.toInt32)))))] H := hP
  have hD : va_D A [(ad 1, .inr (7, ((xf1 ad).set 1 (.int 16)))), (ad 2, .inl (cB, 600, .inl (upd (upd (upd (upd g0 (Int32.toNatClampNeg 12) (vp_nar .byte ((p1 >>> (24 &&& 31)).toInt8.toInt32))) (Int32.toNatClampNeg 13) (vp_nar .byte ((p1 >>> (16 &&& 31)).toInt8.toInt32))) (Int32.toNatClampNeg 14) (vp_nar .byte ((p1 >>> (8 &&& 31)).toInt8.toInt32))) (Int32.toNatClampNeg 15) (vp_nar .byte ((p1 >>> (0 &&& 31)).toInt8.toInt32)))))] := hD
  refine lv_iinc (v := (-8)) (lv' := [(2, .int (-8)), (0, .ref (ad 1)), (1, .int p1)]) hx hb dX7_addFour_40 hl (k := 0) rfl (by decide) (by decide) rfl (fun ls hl => ?_)
  refine lv_goto (tgt := 3) hx hb dX7_addFour_43 (by decide) ?_
  refine lv_iload_n hx hb dX7_addFour_3 rfl (lv_at hl 0 rfl) ?_
  refine lv_if_lt (tgt := 46) hx hb dX7_addFour_4 (by decide) (fun _ => ?_) (fun c => absurd (by decide) c)
  exact z_vret () hx hb hr hlocks hK hP hD hS hAe hQ rfl trivial dX7_addFour_46
set_option maxHeartbeats 4000000 in
set_option maxRecDepth 100000 in
theorem c_X7_addFour_15 (l : Launch) (dC : Nat → ClassId) (dI : Nat → Nat → Nat) (cB cI cJ cZ cP cQ : ClassId) (ad : Nat → Nat) (sz : Nat) (p1 : Int32) (g0 : Nat → Int32) : Met l yX7_addFour wsX7_addFour ({ frames := 0, cells := 0, slots := 0, locals := 0 } : Room) (zPc [.ref (ad 1), .int p1] (dC, dI) (zT cB cI cJ cZ cP cQ) [(ad 1, .inr (7, ((xf1 ad).set 1 (.int 16)))), (ad 2, .inl (cB, 600, .inl g0))] sz [] []) (va_Qv (fun _ => True) (zB (dC, dI) (zT cB cI cJ cZ cP cQ) (fun _ : Unit => [(ad 1, .inr (7, ((xf1 ad).set 1 (.int 20)))), (ad 2, .inl (cB, 600, .inl (upd (upd (upd (upd g0 (Int32.toNatClampNeg 16) (vp_nar .byte ((p1 >>> (24 &&& 31)).toInt8.toInt32))) (Int32.toNatClampNeg 17) (vp_nar .byte ((p1 >>> (16 &&& 31)).toInt8.toInt32))) (Int32.toNatClampNeg 18) (vp_nar .byte ((p1 >>> (8 &&& 31)).toInt8.toInt32))) (Int32.toNatClampNeg 19) (vp_nar .byte ((p1 >>> (0 &&& 31)).toInt8.toInt32)))))]) [(ad 1, .inr (7, ((xf1 ad).set 1 (.int 16)))), (ad 2, .inl (cB, 600, .inl g0))] sz) (va_A [(ad 1, .inr (7, ((xf1 ad).set 1 (.int 16)))), (ad 2, .inl (cB, 600, .inl g0))] sz)) 0 0 (va_A [(ad 1, .inr (7, ((xf1 ad).set 1 (.int 16)))), (ad 2, .inl (cB, 600, .inl g0))] sz) := by
  refine z_enter (cc := cX7_addFour) (maxL := 3) (ret := none) (by decide) rfl (Nat.le_of_ble_eq_true rfl) ?_
  intro p e s m below meth c A ls Q H locs hx hb hr hml hown hts hlocks hin hK hP hD hA hX hS hAe hQ hl
  have hown : s.vm.findClass RX7 = some m.cls := hown
  have hi7 : ∀ w ∈ wsX70, w ∈ wsX7_addFour := fun w h => List.mem_cons_of_mem _ (List.mem_append_right _ h)
  have hk0 := hts (.fieldLink RX7 19 "MonthPush$Tape" "length" "I") (by decide +kernel)
  have hk1 := hts (.fieldLink RX7 9 "MonthPush$Tape" "text" "[B") (by decide +kernel)
  have hl : lv_has ls 3 [(0, .ref (ad 1)), (1, .int p1)] := hl
  refine lv_bipush (v := 24) hx hb dX7_addFour_0 (by decide) ?_
  refine lv_istore_n (lv' := [(2, .int 24), (0, .ref (ad 1)), (1, .int p1)]) hx hb dX7_addFour_2 rfl hl (by decide) rfl (fun ls hl => ?_)
  refine lv_iload_n hx hb dX7_addFour_3 rfl (lv_at hl 0 rfl) ?_
  refine lv_if_lt (tgt := 46) hx hb dX7_addFour_4 (by decide) (fun c => absurd c (by decide)) (fun _ => ?_)
  refine lv_aload_n hx hb dX7_addFour_7 rfl (lv_at hl 1 rfl) ?_
  refine va_get (D := (dC, dI)) (ci := 7) (v := .int 16) (C := RX7) (T := TX7) (N := 8) hx hb hts hi7 hown hK hP 0 rfl rfl 1 (by decide) hk0 (fun _ h9 => h9) rfl dX7_addFour_8 ?_
  refine lv_sipush (v := 600) hx hb dX7_addFour_11 (by decide) ?_
  refine lv_icmp_ge (tgt := 46) hx hb dX7_addFour_14 (by decide) (fun c => absurd c (by decide)) (fun _ => ?_)
  refine lv_aload_n hx hb dX7_addFour_17 rfl (lv_at hl 1 rfl) ?_
  refine va_get (D := (dC, dI)) (ci := 7) (v := .ref (ad 2)) (C := RX7) (T := TX7) (N := 8) hx hb hts hi7 hown hK hP 0 rfl rfl 0 (by decide) hk1 (fun _ h9 => h9) rfl dX7_addFour_18 ?_
  refine lv_aload_n hx hb dX7_addFour_21 rfl (lv_at hl 1 rfl) ?_
  refine va_get (D := (dC, dI)) (ci := 7) (v := .int 16) (C := RX7) (T := TX7) (N := 8) hx hb hts hi7 hown hK hP 0 rfl rfl 1 (by decide) hk0 (fun _ h9 => h9) rfl dX7_addFour_22 ?_
  refine lv_iload_n hx hb dX7_addFour_25 rfl (lv_at hl 2 rfl) ?_
  refine lv_iload_n hx hb dX7_addFour_26 rfl (lv_at hl 0 rfl) ?_
  refine lv_ishr hx hb dX7_addFour_27 ?_
  refine lv_i2b hx hb dX7_addFour_28 rfl ?_
  refine va_bast hx hb hK hP hD hS 1 0 rfl rfl (z_in (a := 16) (by decide) (by decide) (by decide)) dX7_addFour_29 (fun H locs hP hD hS => ?_)
  have hP : va_P (dC, dI) vwCl [(ad 1, .inr (7, ((xf1 ad).set 1 (.int 16)))), (ad 2, .inl (cB, 600, .inl (upd g0 (Int32.toNatClampNeg 16) (vp_nar .byte ((p1 >>> (24 &&& 31)).toInt8.toInt32)))))] H := hP
  have hD : va_D A [(ad 1, .inr (7, ((xf1 ad).set 1 (.int 16)))), (ad 2, .inl (cB, 600, .inl (upd g0 (Int32.toNatClampNeg 16) (vp_nar .byte ((p1 >>> (24 &&& 31)).toInt8.toInt32)))))] := hD
  refine lv_aload_n hx hb dX7_addFour_30 rfl (lv_at hl 1 rfl) ?_
  refine lv_dup hx hb dX7_addFour_31 rfl ?_
  refine va_get (D := (dC, dI)) (ci := 7) (v := .int 16) (C := RX7) (T := TX7) (N := 8) hx hb hts hi7 hown hK hP 0 rfl rfl 1 (by decide) hk0 (fun _ h9 => h9) rfl dX7_addFour_32 ?_
  refine lv_iconst (v := 1) hx hb dX7_addFour_35 (by decide) ?_
  refine lv_iadd hx hb dX7_addFour_36 ?_
  refine z_topi (y := 17) (by decide +kernel) ?_
  refine va_put (D := (dC, dI)) (ci := 7) (v := .int 17) (ty := .int) (C := RX7) (T := TX7) (N := 8) hx hb hts hi7 tyX7 tyX7_ok nmX7 hown hK hP hD hS 0 rfl rfl 1 (by decide) hk0 (fun _ h9 => h9) rfl (by decide +kernel) rfl rfl (Nat.le_of_ble_eq_true rfl) dX7_addFour_37 (fun H locs hP hD hS => ?_)
  have hP : va_P (dC, dI) vwCl [(ad 1, .inr (7, ((xf1 ad).set 1 (.int 17)))), (ad 2, .inl (cB, 600, .inl (upd g0 (Int32.toNatClampNeg 16) (vp_nar .byte ((p1 >>> (24 &&& 31)).toInt8.toInt32)))))] H := hP
  have hD : va_D A [(ad 1, .inr (7, ((xf1 ad).set 1 (.int 17)))), (ad 2, .inl (cB, 600, .inl (upd g0 (Int32.toNatClampNeg 16) (vp_nar .byte ((p1 >>> (24 &&& 31)).toInt8.toInt32)))))] := hD
  refine lv_iinc (v := 16) (lv' := [(2, .int 16), (0, .ref (ad 1)), (1, .int p1)]) hx hb dX7_addFour_40 hl (k := 0) rfl (by decide) (by decide) rfl (fun ls hl => ?_)
  refine lv_goto (tgt := 3) hx hb dX7_addFour_43 (by decide) ?_
  refine lv_iload_n hx hb dX7_addFour_3 rfl (lv_at hl 0 rfl) ?_
  refine lv_if_lt (tgt := 46) hx hb dX7_addFour_4 (by decide) (fun c => absurd c (by decide)) (fun _ => ?_)
  refine lv_aload_n hx hb dX7_addFour_7 rfl (lv_at hl 1 rfl) ?_
  refine va_get (D := (dC, dI)) (ci := 7) (v := .int 17) (C := RX7) (T := TX7) (N := 8) hx hb hts hi7 hown hK hP 0 rfl rfl 1 (by decide) hk0 (fun _ h9 => h9) rfl dX7_addFour_8 ?_
  refine lv_sipush (v := 600) hx hb dX7_addFour_11 (by decide) ?_
  refine lv_icmp_ge (tgt := 46) hx hb dX7_addFour_14 (by decide) (fun c => absurd c (by decide)) (fun _ => ?_)
  refine lv_aload_n hx hb dX7_addFour_17 rfl (lv_at hl 1 rfl) ?_
  refine va_get (D := (dC, dI)) (ci := 7) (v := .ref (ad 2)) (C := RX7) (T := TX7) (N := 8) hx hb hts hi7 hown hK hP 0 rfl rfl 0 (by decide) hk1 (fun _ h9 => h9) rfl dX7_addFour_18 ?_
  refine lv_aload_n hx hb dX7_addFour_21 rfl (lv_at hl 1 rfl) ?_
  refine va_get (D := (dC, dI)) (ci := 7) (v := .int 17) (C := RX7) (T := TX7) (N := 8) hx hb hts hi7 hown hK hP 0 rfl rfl 1 (by decide) hk0 (fun _ h9 => h9) rfl dX7_addFour_22 ?_
  refine lv_iload_n hx hb dX7_addFour_25 rfl (lv_at hl 2 rfl) ?_
  refine lv_iload_n hx hb dX7_addFour_26 rfl (lv_at hl 0 rfl) ?_
  refine lv_ishr hx hb dX7_addFour_27 ?_
  refine lv_i2b hx hb dX7_addFour_28 rfl ?_
  refine va_bast hx hb hK hP hD hS 1 0 rfl rfl (z_in (a := 17) (by decide) (by decide) (by decide)) dX7_addFour_29 (fun H locs hP hD hS => ?_)
  have hP : va_P (dC, dI) vwCl [(ad 1, .inr (7, ((xf1 ad).set 1 (.int 17)))), (ad 2, .inl (cB, 600, .inl (upd (upd g0 (Int32.toNatClampNeg 16) (vp_nar .byte ((p1 >>> (24 &&& 31)).toInt8.toInt32))) (Int32.toNatClampNeg 17) (vp_nar .byte ((p1 >>> (16 &&& 31)).toInt8.toInt32)))))] H := hP
  have hD : va_D A [(ad 1, .inr (7, ((xf1 ad).set 1 (.int 17)))), (ad 2, .inl (cB, 600, .inl (upd (upd g0 (Int32.toNatClampNeg 16) (vp_nar .byte ((p1 >>> (24 &&& 31)).toInt8.toInt32))) (Int32.toNatClampNeg 17) (vp_nar .byte ((p1 >>> (16 &&& 31)).toInt8.toInt32)))))] := hD
  refine lv_aload_n hx hb dX7_addFour_30 rfl (lv_at hl 1 rfl) ?_
  refine lv_dup hx hb dX7_addFour_31 rfl ?_
  refine va_get (D := (dC, dI)) (ci := 7) (v := .int 17) (C := RX7) (T := TX7) (N := 8) hx hb hts hi7 hown hK hP 0 rfl rfl 1 (by decide) hk0 (fun _ h9 => h9) rfl dX7_addFour_32 ?_
  refine lv_iconst (v := 1) hx hb dX7_addFour_35 (by decide) ?_
  refine lv_iadd hx hb dX7_addFour_36 ?_
  refine z_topi (y := 18) (by decide +kernel) ?_
  refine va_put (D := (dC, dI)) (ci := 7) (v := .int 18) (ty := .int) (C := RX7) (T := TX7) (N := 8) hx hb hts hi7 tyX7 tyX7_ok nmX7 hown hK hP hD hS 0 rfl rfl 1 (by decide) hk0 (fun _ h9 => h9) rfl (by decide +kernel) rfl rfl (Nat.le_of_ble_eq_true rfl) dX7_addFour_37 (fun H locs hP hD hS => ?_)
  have hP : va_P (dC, dI) vwCl [(ad 1, .inr (7, ((xf1 ad).set 1 (.int 18)))), (ad 2, .inl (cB, 600, .inl (upd (upd g0 (Int32.toNatClampNeg 16) (vp_nar .byte ((p1 >>> (24 &&& 31)).toInt8.toInt32))) (Int32.toNatClampNeg 17) (vp_nar .byte ((p1 >>> (16 &&& 31)).toInt8.toInt32)))))] H := hP
  have hD : va_D A [(ad 1, .inr (7, ((xf1 ad).set 1 (.int 18)))), (ad 2, .inl (cB, 600, .inl (upd (upd g0 (Int32.toNatClampNeg 16) (vp_nar .byte ((p1 >>> (24 &&& 31)).toInt8.toInt32))) (Int32.toNatClampNeg 17) (vp_nar .byte ((p1 >>> (16 &&& 31)).toInt8.toInt32)))))] := hD
  refine lv_iinc (v := 8) (lv' := [(2, .int 8), (0, .ref (ad 1)), (1, .int p1)]) hx hb dX7_addFour_40 hl (k := 0) rfl (by decide) (by decide) rfl (fun ls hl => ?_)
  refine lv_goto (tgt := 3) hx hb dX7_addFour_43 (by decide) ?_
  refine lv_iload_n hx hb dX7_addFour_3 rfl (lv_at hl 0 rfl) ?_
  refine lv_if_lt (tgt := 46) hx hb dX7_addFour_4 (by decide) (fun c => absurd c (by decide)) (fun _ => ?_)
  refine lv_aload_n hx hb dX7_addFour_7 rfl (lv_at hl 1 rfl) ?_
  refine va_get (D := (dC, dI)) (ci := 7) (v := .int 18) (C := RX7) (T := TX7) (N := 8) hx hb hts hi7 hown hK hP 0 rfl rfl 1 (by decide) hk0 (fun _ h9 => h9) rfl dX7_addFour_8 ?_
  refine lv_sipush (v := 600) hx hb dX7_addFour_11 (by decide) ?_
  refine lv_icmp_ge (tgt := 46) hx hb dX7_addFour_14 (by decide) (fun c => absurd c (by decide)) (fun _ => ?_)
  refine lv_aload_n hx hb dX7_addFour_17 rfl (lv_at hl 1 rfl) ?_
  refine va_get (D := (dC, dI)) (ci := 7) (v := .ref (ad 2)) (C := RX7) (T := TX7) (N := 8) hx hb hts hi7 hown hK hP 0 rfl rfl 0 (by decide) hk1 (fun _ h9 => h9) rfl dX7_addFour_18 ?_
  refine lv_aload_n hx hb dX7_addFour_21 rfl (lv_at hl 1 rfl) ?_
  refine va_get (D := (dC, dI)) (ci := 7) (v := .int 18) (C := RX7) (T := TX7) (N := 8) hx hb hts hi7 hown hK hP 0 rfl rfl 1 (by decide) hk0 (fun _ h9 => h9) rfl dX7_addFour_22 ?_
  refine lv_iload_n hx hb dX7_addFour_25 rfl (lv_at hl 2 rfl) ?_
  refine lv_iload_n hx hb dX7_addFour_26 rfl (lv_at hl 0 rfl) ?_
  refine lv_ishr hx hb dX7_addFour_27 ?_
  refine lv_i2b hx hb dX7_addFour_28 rfl ?_
  refine va_bast hx hb hK hP hD hS 1 0 rfl rfl (z_in (a := 18) (by decide) (by decide) (by decide)) dX7_addFour_29 (fun H locs hP hD hS => ?_)
  have hP : va_P (dC, dI) vwCl [(ad 1, .inr (7, ((xf1 ad).set 1 (.int 18)))), (ad 2, .inl (cB, 600, .inl (upd (upd (upd g0 (Int32.toNatClampNeg 16) (vp_nar .byte ((p1 >>> (24 &&& 31)).toInt8.toInt32))) (Int32.toNatClampNeg 17) (vp_nar .byte ((p1 >>> (16 &&& 31)).toInt8.toInt32))) (Int32.toNatClampNeg 18) (vp_nar .byte ((p1 >>> (8 &&& 31)).toInt8.toInt32)))))] H := hP
  have hD : va_D A [(ad 1, .inr (7, ((xf1 ad).set 1 (.int 18)))), (ad 2, .inl (cB, 600, .inl (upd (upd (upd g0 (Int32.toNatClampNeg 16) (vp_nar .byte ((p1 >>> (24 &&& 31)).toInt8.toInt32))) (Int32.toNatClampNeg 17) (vp_nar .byte ((p1 >>> (16 &&& 31)).toInt8.toInt32))) (Int32.toNatClampNeg 18) (vp_nar .byte ((p1 >>> (8 &&& 31)).toInt8.toInt32)))))] := hD
  refine lv_aload_n hx hb dX7_addFour_30 rfl (lv_at hl 1 rfl) ?_
  refine lv_dup hx hb dX7_addFour_31 rfl ?_
  refine va_get (D := (dC, dI)) (ci := 7) (v := .int 18) (C := RX7) (T := TX7) (N := 8) hx hb hts hi7 hown hK hP 0 rfl rfl 1 (by decide) hk0 (fun _ h9 => h9) rfl dX7_addFour_32 ?_
  refine lv_iconst (v := 1) hx hb dX7_addFour_35 (by decide) ?_
  refine lv_iadd hx hb dX7_addFour_36 ?_
  refine z_topi (y := 19) (by decide +kernel) ?_
  refine va_put (D := (dC, dI)) (ci := 7) (v := .int 19) (ty := .int) (C := RX7) (T := TX7) (N := 8) hx hb hts hi7 tyX7 tyX7_ok nmX7 hown hK hP hD hS 0 rfl rfl 1 (by decide) hk0 (fun _ h9 => h9) rfl (by decide +kernel) rfl rfl (Nat.le_of_ble_eq_true rfl) dX7_addFour_37 (fun H locs hP hD hS => ?_)
  have hP : va_P (dC, dI) vwCl [(ad 1, .inr (7, ((xf1 ad).set 1 (.int 19)))), (ad 2, .inl (cB, 600, .inl (upd (upd (upd g0 (Int32.toNatClampNeg 16) (vp_nar .byte ((p1 >>> (24 &&& 31)).toInt8.toInt32))) (Int32.toNatClampNeg 17) (vp_nar .byte ((p1 >>> (16 &&& 31)).toInt8.toInt32))) (Int32.toNatClampNeg 18) (vp_nar .byte ((p1 >>> (8 &&& 31)).toInt8.toInt32)))))] H := hP
  have hD : va_D A [(ad 1, .inr (7, ((xf1 ad).set 1 (.int 19)))), (ad 2, .inl (cB, 600, .inl (upd (upd (upd g0 (Int32.toNatClampNeg 16) (vp_nar .byte ((p1 >>> (24 &&& 31)).toInt8.toInt32))) (Int32.toNatClampNeg 17) (vp_nar .byte ((p1 >>> (16 &&& 31)).toInt8.toInt32))) (Int32.toNatClampNeg 18) (vp_nar .byte ((p1 >>> (8 &&& 31)).toInt8.toInt32)))))] := hD
  refine lv_iinc (v := 0) (lv' := [(2, .int 0), (0, .ref (ad 1)), (1, .int p1)]) hx hb dX7_addFour_40 hl (k := 0) rfl (by decide) (by decide) rfl (fun ls hl => ?_)
  refine lv_goto (tgt := 3) hx hb dX7_addFour_43 (by decide) ?_
  refine lv_iload_n hx hb dX7_addFour_3 rfl (lv_at hl 0 rfl) ?_
  refine lv_if_lt (tgt := 46) hx hb dX7_addFour_4 (by decide) (fun c => absurd c (by decide)) (fun _ => ?_)
  refine lv_aload_n hx hb dX7_addFour_7 rfl (lv_at hl 1 rfl) ?_
  refine va_get (D := (dC, dI)) (ci := 7) (v := .int 19) (C := RX7) (T := TX7) (N := 8) hx hb hts hi7 hown hK hP 0 rfl rfl 1 (by decide) hk0 (fun _ h9 => h9) rfl dX7_addFour_8 ?_
  refine lv_sipush (v := 600) hx hb dX7_addFour_11 (by decide) ?_
  refine lv_icmp_ge (tgt := 46) hx hb dX7_addFour_14 (by decide) (fun c => absurd c (by decide)) (fun _ => ?_)
  refine lv_aload_n hx hb dX7_addFour_17 rfl (lv_at hl 1 rfl) ?_
  refine va_get (D := (dC, dI)) (ci := 7) (v := .ref (ad 2)) (C := RX7) (T := TX7) (N := 8) hx hb hts hi7 hown hK hP 0 rfl rfl 0 (by decide) hk1 (fun _ h9 => h9) rfl dX7_addFour_18 ?_
  refine lv_aload_n hx hb dX7_addFour_21 rfl (lv_at hl 1 rfl) ?_
  refine va_get (D := (dC, dI)) (ci := 7) (v := .int 19) (C := RX7) (T := TX7) (N := 8) hx hb hts hi7 hown hK hP 0 rfl rfl 1 (by decide) hk0 (fun _ h9 => h9) rfl dX7_addFour_22 ?_
  refine lv_iload_n hx hb dX7_addFour_25 rfl (lv_at hl 2 rfl) ?_
  refine lv_iload_n hx hb dX7_addFour_26 rfl (lv_at hl 0 rfl) ?_
  refine lv_ishr hx hb dX7_addFour_27 ?_
  refine lv_i2b hx hb dX7_addFour_28 rfl ?_
  refine va_bast hx hb hK hP hD hS 1 0 rfl rfl (z_in (a := 19) (by decide) (by decide) (by decide)) dX7_addFour_29 (fun H locs hP hD hS => ?_)
  have hP : va_P (dC, dI) vwCl [(ad 1, .inr (7, ((xf1 ad).set 1 (.int 19)))), (ad 2, .inl (cB, 600, .inl (upd (upd (upd (upd g0 (Int32.toNatClampNeg 16) (vp_nar .byte ((p1 >>> (24 &&& 31)).toInt8.toInt32))) (Int32.toNatClampNeg 17) (vp_nar .byte ((p1 >>> (16 &&& 31)).toInt8.toInt32))) (Int32.toNatClampNeg 18) (vp_nar .byte ((p1 >>> (8 &&& 31)).toInt8.toInt32))) (Int32.toNatClampNeg 19) (vp_nar .byte ((p1 >>> (0 &&& 31)).toInt8.toInt32)))))] H := hP
  have hD : va_D A [(ad 1, .inr (7, ((xf1 ad).set 1 (.int 19)))), (ad 2, .inl (cB, 600, .inl (upd (upd (upd (upd g0 (Int32.toNatClampNeg 16) (vp_nar .byte ((p1 >>> (24 &&& 31)).toInt8.toInt32))) (Int32.toNatClampNeg 17) (vp_nar .byte ((p1 >>> (16 &&& 31)).toInt8.toInt32))) (Int32.toNatClampNeg 18) (vp_nar .byte ((p1 >>> (8 &&& 31)).toInt8.toInt32))) (Int32.toNatClampNeg 19) (vp_nar .byte ((p1 >>> (0 &&& 31)).toInt8.toInt32)))))] := hD
  refine lv_aload_n hx hb dX7_addFour_30 rfl (lv_at hl 1 rfl) ?_
  refine lv_dup hx hb dX7_addFour_31 rfl ?_
  refine va_get (D := (dC, dI)) (ci := 7) (v := .int 19) (C := RX7) (T := TX7) (N := 8) hx hb hts hi7 hown hK hP 0 rfl rfl 1 (by decide) hk0 (fun _ h9 => h9) rfl dX7_addFour_32 ?_
  refine lv_iconst (v := 1) hx hb dX7_addFour_35 (by decide) ?_
  refine lv_iadd hx hb dX7_addFour_36 ?_
  refine z_topi (y := 20) (by decide +kernel) ?_
  refine va_put (D := (dC, dI)) (ci := 7) (v := .int 20) (ty := .int) (C := RX7) (T := TX7) (N := 8) hx hb hts hi7 tyX7 tyX7_ok nmX7 hown hK hP hD hS 0 rfl rfl 1 (by decide) hk0 (fun _ h9 => h9) rfl (by decide +kernel) rfl rfl (Nat.le_of_ble_eq_true rfl) dX7_addFour_37 (fun H locs hP hD hS => ?_)
  have hP : va_P (dC, dI) vwCl [(ad 1, .inr (7, ((xf1 ad).set 1 (.int 20)))), (ad 2, .inl (cB, 600, .inl (upd (upd (upd (upd g0 (Int32.toNatClampNeg 16) (vp_nar .byte ((p1 >>> (24 &&& 31)).toInt8.toInt32))) (Int32.toNatClampNeg 17) (vp_nar .byte ((p1 >>> (16 &&& 31)).toInt8.toInt32))) (Int32.toNatClampNeg 18) (vp_nar .byte ((p1 >>> (8 &&& 31)).toInt8.toInt32))) (Int32.toNatClampNeg 19) (vp_nar .byte ((p1 >>> (0 &&& 31)).toInt8.toInt32)))))] H := hP
  have hD : va_D A [(ad 1, .inr (7, ((xf1 ad).set 1 (.int 20)))), (ad 2, .inl (cB, 600, .inl (upd (upd (upd (upd g0 (Int32.toNatClampNeg 16) (vp_nar .byte ((p1 >>> (24 &&& 31)).toInt8.toInt32))) (Int32.toNatClampNeg 17) (vp_nar .byte ((p1 >>> (16 &&& 31)).toInt8.toInt32))) (Int32.toNatClampNeg 18) (vp_nar .byte ((p1 >>> (8 &&& 31)).toInt8.toInt32))) (Int32.toNatClampNeg 19) (vp_nar .byte ((p1 >>> (0 &&& 31)).toInt8.toInt32)))))] := hD
  refine lv_iinc (v := (-8)) (lv' := [(2, .int (-8)), (0, .ref (ad 1)), (1, .int p1)]) hx hb dX7_addFour_40 hl (k := 0) rfl (by decide) (by decide) rfl (fun ls hl => ?_)
  refine lv_goto (tgt := 3) hx hb dX7_addFour_43 (by decide) ?_
  refine lv_iload_n hx hb dX7_addFour_3 rfl (lv_at hl 0 rfl) ?_
  refine lv_if_lt (tgt := 46) hx hb dX7_addFour_4 (by decide) (fun _ => ?_) (fun c => absurd (by decide) c)
  exact z_vret () hx hb hr hlocks hK hP hD hS hAe hQ rfl trivial dX7_addFour_46
set_option maxHeartbeats 4000000 in
set_option maxRecDepth 100000 in
theorem c_X8_feed_15 (l : Launch) (dC : Nat → ClassId) (dI : Nat → Nat → Nat) (cB cI cJ cZ cP cQ : ClassId) (ad : Nat → Nat) (sz : Nat) (p1 : Int32) (p2 : Int32) (p3 : Int32) (p4 : Int32) (p5 : Int32) : Met l yX8_feed wsX8_feed ({ frames := 1, cells := 0, slots := 0, locals := 22 } : Room) (zPc [.ref (ad 0), .int p1, .int p2, .int p3, .int p4, .int p5] (dC, dI) (zT cB cI cJ cZ cP cQ) [(ad 0, .inr (8, xf0 ad)), (ad 1, .inr (7, xf1 ad)), (ad 2, .inl (cB, 600, .inl (fun _ => 0)))] sz [] []) (va_Qi (fun r _ => (fun r => r = 20) r) (zB (dC, dI) (zT cB cI cJ cZ cP cQ) (fun _ : Unit => []) [(ad 0, .inr (8, xf0 ad)), (ad 1, .inr (7, xf1 ad)), (ad 2, .inl (cB, 600, .inl (fun _ => 0)))] sz) (va_A [(ad 0, .inr (8, xf0 ad)), (ad 1, .inr (7, xf1 ad)), (ad 2, .inl (cB, 600, .inl (fun _ => 0)))] sz)) 0 0 (va_A [(ad 0, .inr (8, xf0 ad)), (ad 1, .inr (7, xf1 ad)), (ad 2, .inl (cB, 600, .inl (fun _ => 0)))] sz) := by
  refine z_enter (cc := cX8_feed) (maxL := 6) (ret := (some .int)) (by decide) rfl (Nat.le_of_ble_eq_true rfl) ?_
  intro p e s m below meth c A ls Q H locs hx hb hr hml hown hts hlocks hin hK hP hD hA hX hS hAe hQ hl
  have hown : s.vm.findClass RX8 = some m.cls := hown
  have hi7 : ∀ w ∈ wsX70, w ∈ wsX8_feed := fun w h => List.mem_cons_of_mem _ (List.mem_append_right _ h)
  have hi8 : ∀ w ∈ wsX80, w ∈ wsX8_feed := fun w h => List.mem_cons_of_mem _ (List.mem_append_left _ (List.mem_append_right _ h))
  have hk0 := hts (.fieldLink RX8 10 "MonthPush" "tape" "LMonthPush$Tape;") (by decide +kernel)
  have hk1 := hts (.fieldLink RX8 70 "MonthPush$Tape" "length" "I") (by decide +kernel)
  have hl : lv_has ls 6 [(0, .ref (ad 0)), (1, .int p1), (2, .int p2), (3, .int p3), (4, .int p4), (5, .int p5)] := hl
  refine lv_aload_n hx hb dX8_feed_0 rfl (lv_at hl 0 rfl) ?_
  refine va_get (D := (dC, dI)) (ci := 8) (v := .ref (ad 1)) (C := RX8) (T := TX8) (N := 10) hx hb hts hi8 hown hK hP 0 rfl rfl 0 (by decide) hk0 (fun _ h9 => h9) rfl dX8_feed_1 ?_
  refine va_get (D := (dC, dI)) (ci := 7) (v := .int 0) (C := RX7) (T := TX7) (N := 8) hx hb hts hi7 hown hK hP 1 rfl rfl 1 (by decide) hk1 (fun _ h9 => h9) rfl dX8_feed_4 ?_
  refine lv_bipush (v := 20) hx hb dX8_feed_7 (by decide) ?_
  refine lv_iadd hx hb dX8_feed_9 ?_
  refine z_topi (y := 20) (by decide +kernel) ?_
  refine lv_sipush (v := 600) hx hb dX8_feed_10 (by decide) ?_
  refine lv_icmp_le (tgt := 18) hx hb dX8_feed_13 (by decide) (fun _ => ?_) (fun c => absurd (by decide) c)
  refine lv_aload_n hx hb dX8_feed_18 rfl (lv_at hl 0 rfl) ?_
  refine va_get (D := (dC, dI)) (ci := 8) (v := .ref (ad 1)) (C := RX8) (T := TX8) (N := 10) hx hb hts hi8 hown hK hP 0 rfl rfl 0 (by decide) hk0 (fun _ h9 => h9) rfl dX8_feed_19 ?_
  refine lv_iload_n hx hb dX8_feed_22 rfl (lv_at hl 1 rfl) ?_
  refine z_finv (w' := fun (u1 : Unit) => [(ad 0, .inr (8, xf0 ad)), (ad 1, .inr (7, ((xf1 ad).set 1 (.int 4)))), (ad 2, .inl (cB, 600, .inl (upd (upd (upd (upd (fun _ => 0) (Int32.toNatClampNeg 0) (vp_nar .byte ((p1 >>> (24 &&& 31)).toInt8.toInt32))) (Int32.toNatClampNeg 1) (vp_nar .byte ((p1 >>> (16 &&& 31)).toInt8.toInt32))) (Int32.toNatClampNeg 2) (vp_nar .byte ((p1 >>> (8 &&& 31)).toInt8.toInt32))) (Int32.toNatClampNeg 3) (vp_nar .byte ((p1 >>> (0 &&& 31)).toInt8.toInt32)))))]) (va_runV (As := [.int p1]) (rest := []) ⟨hx, hb, hml, hown, hts⟩ (c_X7_addFour_11 l dC dI cB cI cJ cZ cP cQ ad H.size p1) (cwV 1 hts gX8_feed_X7_addFour rfl rfl rfl (by decide +kernel) ⟨Nat.le_of_ble_eq_true rfl, Nat.le_of_ble_eq_true rfl⟩) (z_pV (ci := 7) hK hP hD zX_nil [1, 2] (by decide) rfl rfl 1 rfl) rfl rfl hl.1 rfl (lv_room (Nat.le_of_ble_eq_true rfl)) dX8_feed_23 ⟨Nat.le_of_ble_eq_true rfl, Nat.le_of_ble_eq_true rfl⟩) hP hD hS hA [1, 2] [0] [0, 1, 2] rfl rfl (by decide) (by decide) (fun _ => rfl) (by decide) (fun u1 H locs hp3 hP hD hS => ?_)
  have hP : va_P (dC, dI) vwCl [(ad 0, .inr (8, xf0 ad)), (ad 1, .inr (7, ((xf1 ad).set 1 (.int 4)))), (ad 2, .inl (cB, 600, .inl (upd (upd (upd (upd (fun _ => 0) (Int32.toNatClampNeg 0) (vp_nar .byte ((p1 >>> (24 &&& 31)).toInt8.toInt32))) (Int32.toNatClampNeg 1) (vp_nar .byte ((p1 >>> (16 &&& 31)).toInt8.toInt32))) (Int32.toNatClampNeg 2) (vp_nar .byte ((p1 >>> (8 &&& 31)).toInt8.toInt32))) (Int32.toNatClampNeg 3) (vp_nar .byte ((p1 >>> (0 &&& 31)).toInt8.toInt32)))))] H := hP
  have hD : va_D A [(ad 0, .inr (8, xf0 ad)), (ad 1, .inr (7, ((xf1 ad).set 1 (.int 4)))), (ad 2, .inl (cB, 600, .inl (upd (upd (upd (upd (fun _ => 0) (Int32.toNatClampNeg 0) (vp_nar .byte ((p1 >>> (24 &&& 31)).toInt8.toInt32))) (Int32.toNatClampNeg 1) (vp_nar .byte ((p1 >>> (16 &&& 31)).toInt8.toInt32))) (Int32.toNatClampNeg 2) (vp_nar .byte ((p1 >>> (8 &&& 31)).toInt8.toInt32))) (Int32.toNatClampNeg 3) (vp_nar .byte ((p1 >>> (0 &&& 31)).toInt8.toInt32)))))] := hD
  obtain ⟨gg4, hgg4⟩ : ∃ g : Nat → Int32, g = upd (upd (upd (upd (fun _ => 0) (Int32.toNatClampNeg 0) (vp_nar .byte ((p1 >>> (24 &&& 31)).toInt8.toInt32))) (Int32.toNatClampNeg 1) (vp_nar .byte ((p1 >>> (16 &&& 31)).toInt8.toInt32))) (Int32.toNatClampNeg 2) (vp_nar .byte ((p1 >>> (8 &&& 31)).toInt8.toInt32))) (Int32.toNatClampNeg 3) (vp_nar .byte ((p1 >>> (0 &&& 31)).toInt8.toInt32)) := ⟨_, rfl⟩
  rw [← hgg4] at hP hD
  refine W.widen (k := 0) (n := 0) (by decide) (by decide) ?_
  refine lv_aload_n hx hb dX8_feed_26 rfl (lv_at hl 0 rfl) ?_
  refine va_get (D := (dC, dI)) (ci := 8) (v := .ref (ad 1)) (C := RX8) (T := TX8) (N := 10) hx hb hts hi8 hown hK hP 0 rfl rfl 0 (by decide) hk0 (fun _ h9 => h9) rfl dX8_feed_27 ?_
  refine lv_iload_n hx hb dX8_feed_30 rfl (lv_at hl 2 rfl) ?_
  refine z_finv (w' := fun (u5 : Unit) => [(ad 0, .inr (8, xf0 ad)), (ad 1, .inr (7, ((xf1 ad).set 1 (.int 8)))), (ad 2, .inl (cB, 600, .inl (upd (upd (upd (upd gg4 (Int32.toNatClampNeg 4) (vp_nar .byte ((p2 >>> (24 &&& 31)).toInt8.toInt32))) (Int32.toNatClampNeg 5) (vp_nar .byte ((p2 >>> (16 &&& 31)).toInt8.toInt32))) (Int32.toNatClampNeg 6) (vp_nar .byte ((p2 >>> (8 &&& 31)).toInt8.toInt32))) (Int32.toNatClampNeg 7) (vp_nar .byte ((p2 >>> (0 &&& 31)).toInt8.toInt32)))))]) (va_runV (As := [.int p2]) (rest := []) ⟨hx, hb, hml, hown, hts⟩ (c_X7_addFour_12 l dC dI cB cI cJ cZ cP cQ ad H.size p2 gg4) (cwV 1 hts gX8_feed_X7_addFour rfl rfl rfl (by decide +kernel) ⟨Nat.le_of_ble_eq_true rfl, Nat.le_of_ble_eq_true rfl⟩) (z_pV (ci := 7) hK hP hD zX_nil [1, 2] (by decide) rfl rfl 1 rfl) rfl rfl hl.1 rfl (lv_room (Nat.le_of_ble_eq_true rfl)) dX8_feed_31 ⟨Nat.le_of_ble_eq_true rfl, Nat.le_of_ble_eq_true rfl⟩) hP hD hS hA [1, 2] [0] [0, 1, 2] rfl rfl (by decide) (by decide) (fun _ => rfl) (by decide) (fun u5 H locs hp7 hP hD hS => ?_)
  have hP : va_P (dC, dI) vwCl [(ad 0, .inr (8, xf0 ad)), (ad 1, .inr (7, ((xf1 ad).set 1 (.int 8)))), (ad 2, .inl (cB, 600, .inl (upd (upd (upd (upd gg4 (Int32.toNatClampNeg 4) (vp_nar .byte ((p2 >>> (24 &&& 31)).toInt8.toInt32))) (Int32.toNatClampNeg 5) (vp_nar .byte ((p2 >>> (16 &&& 31)).toInt8.toInt32))) (Int32.toNatClampNeg 6) (vp_nar .byte ((p2 >>> (8 &&& 31)).toInt8.toInt32))) (Int32.toNatClampNeg 7) (vp_nar .byte ((p2 >>> (0 &&& 31)).toInt8.toInt32)))))] H := hP
  have hD : va_D A [(ad 0, .inr (8, xf0 ad)), (ad 1, .inr (7, ((xf1 ad).set 1 (.int 8)))), (ad 2, .inl (cB, 600, .inl (upd (upd (upd (upd gg4 (Int32.toNatClampNeg 4) (vp_nar .byte ((p2 >>> (24 &&& 31)).toInt8.toInt32))) (Int32.toNatClampNeg 5) (vp_nar .byte ((p2 >>> (16 &&& 31)).toInt8.toInt32))) (Int32.toNatClampNeg 6) (vp_nar .byte ((p2 >>> (8 &&& 31)).toInt8.toInt32))) (Int32.toNatClampNeg 7) (vp_nar .byte ((p2 >>> (0 &&& 31)).toInt8.toInt32)))))] := hD
  obtain ⟨gg8, hgg8⟩ : ∃ g : Nat → Int32, g = upd (upd (upd (upd gg4 (Int32.toNatClampNeg 4) (vp_nar .byte ((p2 >>> (24 &&& 31)).toInt8.toInt32))) (Int32.toNatClampNeg 5) (vp_nar .byte ((p2 >>> (16 &&& 31)).toInt8.toInt32))) (Int32.toNatClampNeg 6) (vp_nar .byte ((p2 >>> (8 &&& 31)).toInt8.toInt32))) (Int32.toNatClampNeg 7) (vp_nar .byte ((p2 >>> (0 &&& 31)).toInt8.toInt32)) := ⟨_, rfl⟩
  rw [← hgg8] at hP hD
  refine W.widen (k := 0) (n := 0) (by decide) (by decide) ?_
  refine lv_aload_n hx hb dX8_feed_34 rfl (lv_at hl 0 rfl) ?_
  refine va_get (D := (dC, dI)) (ci := 8) (v := .ref (ad 1)) (C := RX8) (T := TX8) (N := 10) hx hb hts hi8 hown hK hP 0 rfl rfl 0 (by decide) hk0 (fun _ h9 => h9) rfl dX8_feed_35 ?_
  refine lv_iload_n hx hb dX8_feed_38 rfl (lv_at hl 3 rfl) ?_
  refine z_finv (w' := fun (u9 : Unit) => [(ad 0, .inr (8, xf0 ad)), (ad 1, .inr (7, ((xf1 ad).set 1 (.int 12)))), (ad 2, .inl (cB, 600, .inl (upd (upd (upd (upd gg8 (Int32.toNatClampNeg 8) (vp_nar .byte ((p3 >>> (24 &&& 31)).toInt8.toInt32))) (Int32.toNatClampNeg 9) (vp_nar .byte ((p3 >>> (16 &&& 31)).toInt8.toInt32))) (Int32.toNatClampNeg 10) (vp_nar .byte ((p3 >>> (8 &&& 31)).toInt8.toInt32))) (Int32.toNatClampNeg 11) (vp_nar .byte ((p3 >>> (0 &&& 31)).toInt8.toInt32)))))]) (va_runV (As := [.int p3]) (rest := []) ⟨hx, hb, hml, hown, hts⟩ (c_X7_addFour_13 l dC dI cB cI cJ cZ cP cQ ad H.size p3 gg8) (cwV 1 hts gX8_feed_X7_addFour rfl rfl rfl (by decide +kernel) ⟨Nat.le_of_ble_eq_true rfl, Nat.le_of_ble_eq_true rfl⟩) (z_pV (ci := 7) hK hP hD zX_nil [1, 2] (by decide) rfl rfl 1 rfl) rfl rfl hl.1 rfl (lv_room (Nat.le_of_ble_eq_true rfl)) dX8_feed_39 ⟨Nat.le_of_ble_eq_true rfl, Nat.le_of_ble_eq_true rfl⟩) hP hD hS hA [1, 2] [0] [0, 1, 2] rfl rfl (by decide) (by decide) (fun _ => rfl) (by decide) (fun u9 H locs hp11 hP hD hS => ?_)
  have hP : va_P (dC, dI) vwCl [(ad 0, .inr (8, xf0 ad)), (ad 1, .inr (7, ((xf1 ad).set 1 (.int 12)))), (ad 2, .inl (cB, 600, .inl (upd (upd (upd (upd gg8 (Int32.toNatClampNeg 8) (vp_nar .byte ((p3 >>> (24 &&& 31)).toInt8.toInt32))) (Int32.toNatClampNeg 9) (vp_nar .byte ((p3 >>> (16 &&& 31)).toInt8.toInt32))) (Int32.toNatClampNeg 10) (vp_nar .byte ((p3 >>> (8 &&& 31)).toInt8.toInt32))) (Int32.toNatClampNeg 11) (vp_nar .byte ((p3 >>> (0 &&& 31)).toInt8.toInt32)))))] H := hP
  have hD : va_D A [(ad 0, .inr (8, xf0 ad)), (ad 1, .inr (7, ((xf1 ad).set 1 (.int 12)))), (ad 2, .inl (cB, 600, .inl (upd (upd (upd (upd gg8 (Int32.toNatClampNeg 8) (vp_nar .byte ((p3 >>> (24 &&& 31)).toInt8.toInt32))) (Int32.toNatClampNeg 9) (vp_nar .byte ((p3 >>> (16 &&& 31)).toInt8.toInt32))) (Int32.toNatClampNeg 10) (vp_nar .byte ((p3 >>> (8 &&& 31)).toInt8.toInt32))) (Int32.toNatClampNeg 11) (vp_nar .byte ((p3 >>> (0 &&& 31)).toInt8.toInt32)))))] := hD
  obtain ⟨gg12, hgg12⟩ : ∃ g : Nat → Int32, g = upd (upd (upd (upd gg8 (Int32.toNatClampNeg 8) (vp_nar .byte ((p3 >>> (24 &&& 31)).toInt8.toInt32))) (Int32.toNatClampNeg 9) (vp_nar .byte ((p3 >>> (16 &&& 31)).toInt8.toInt32))) (Int32.toNatClampNeg 10) (vp_nar .byte ((p3 >>> (8 &&& 31)).toInt8.toInt32))) (Int32.toNatClampNeg 11) (vp_nar .byte ((p3 >>> (0 &&& 31)).toInt8.toInt32)) := ⟨_, rfl⟩
  rw [← hgg12] at hP hD
  refine W.widen (k := 0) (n := 0) (by decide) (by decide) ?_
  refine lv_aload_n hx hb dX8_feed_42 rfl (lv_at hl 0 rfl) ?_
  refine va_get (D := (dC, dI)) (ci := 8) (v := .ref (ad 1)) (C := RX8) (T := TX8) (N := 10) hx hb hts hi8 hown hK hP 0 rfl rfl 0 (by decide) hk0 (fun _ h9 => h9) rfl dX8_feed_43 ?_
  refine lv_iload hx hb dX8_feed_46 (lv_at hl 4 rfl) ?_
  refine z_finv (w' := fun (u13 : Unit) => [(ad 0, .inr (8, xf0 ad)), (ad 1, .inr (7, ((xf1 ad).set 1 (.int 16)))), (ad 2, .inl (cB, 600, .inl (upd (upd (upd (upd gg12 (Int32.toNatClampNeg 12) (vp_nar .byte ((p4 >>> (24 &&& 31)).toInt8.toInt32))) (Int32.toNatClampNeg 13) (vp_nar .byte ((p4 >>> (16 &&& 31)).toInt8.toInt32))) (Int32.toNatClampNeg 14) (vp_nar .byte ((p4 >>> (8 &&& 31)).toInt8.toInt32))) (Int32.toNatClampNeg 15) (vp_nar .byte ((p4 >>> (0 &&& 31)).toInt8.toInt32)))))]) (va_runV (As := [.int p4]) (rest := []) ⟨hx, hb, hml, hown, hts⟩ (c_X7_addFour_14 l dC dI cB cI cJ cZ cP cQ ad H.size p4 gg12) (cwV 1 hts gX8_feed_X7_addFour rfl rfl rfl (by decide +kernel) ⟨Nat.le_of_ble_eq_true rfl, Nat.le_of_ble_eq_true rfl⟩) (z_pV (ci := 7) hK hP hD zX_nil [1, 2] (by decide) rfl rfl 1 rfl) rfl rfl hl.1 rfl (lv_room (Nat.le_of_ble_eq_true rfl)) dX8_feed_48 ⟨Nat.le_of_ble_eq_true rfl, Nat.le_of_ble_eq_true rfl⟩) hP hD hS hA [1, 2] [0] [0, 1, 2] rfl rfl (by decide) (by decide) (fun _ => rfl) (by decide) (fun u13 H locs hp15 hP hD hS => ?_)
  have hP : va_P (dC, dI) vwCl [(ad 0, .inr (8, xf0 ad)), (ad 1, .inr (7, ((xf1 ad).set 1 (.int 16)))), (ad 2, .inl (cB, 600, .inl (upd (upd (upd (upd gg12 (Int32.toNatClampNeg 12) (vp_nar .byte ((p4 >>> (24 &&& 31)).toInt8.toInt32))) (Int32.toNatClampNeg 13) (vp_nar .byte ((p4 >>> (16 &&& 31)).toInt8.toInt32))) (Int32.toNatClampNeg 14) (vp_nar .byte ((p4 >>> (8 &&& 31)).toInt8.toInt32))) (Int32.toNatClampNeg 15) (vp_nar .byte ((p4 >>> (0 &&& 31)).toInt8.toInt32)))))] H := hP
  have hD : va_D A [(ad 0, .inr (8, xf0 ad)), (ad 1, .inr (7, ((xf1 ad).set 1 (.int 16)))), (ad 2, .inl (cB, 600, .inl (upd (upd (upd (upd gg12 (Int32.toNatClampNeg 12) (vp_nar .byte ((p4 >>> (24 &&& 31)).toInt8.toInt32))) (Int32.toNatClampNeg 13) (vp_nar .byte ((p4 >>> (16 &&& 31)).toInt8.toInt32))) (Int32.toNatClampNeg 14) (vp_nar .byte ((p4 >>> (8 &&& 31)).toInt8.toInt32))) (Int32.toNatClampNeg 15) (vp_nar .byte ((p4 >>> (0 &&& 31)).toInt8.toInt32)))))] := hD
  obtain ⟨gg16, hgg16⟩ : ∃ g : Nat → Int32, g = upd (upd (upd (upd gg12 (Int32.toNatClampNeg 12) (vp_nar .byte ((p4 >>> (24 &&& 31)).toInt8.toInt32))) (Int32.toNatClampNeg 13) (vp_nar .byte ((p4 >>> (16 &&& 31)).toInt8.toInt32))) (Int32.toNatClampNeg 14) (vp_nar .byte ((p4 >>> (8 &&& 31)).toInt8.toInt32))) (Int32.toNatClampNeg 15) (vp_nar .byte ((p4 >>> (0 &&& 31)).toInt8.toInt32)) := ⟨_, rfl⟩
  rw [← hgg16] at hP hD
  refine W.widen (k := 0) (n := 0) (by decide) (by decide) ?_
  refine lv_aload_n hx hb dX8_feed_51 rfl (lv_at hl 0 rfl) ?_
  refine va_get (D := (dC, dI)) (ci := 8) (v := .ref (ad 1)) (C := RX8) (T := TX8) (N := 10) hx hb hts hi8 hown hK hP 0 rfl rfl 0 (by decide) hk0 (fun _ h9 => h9) rfl dX8_feed_52 ?_
  refine lv_iload hx hb dX8_feed_55 (lv_at hl 5 rfl) ?_
  refine z_finv (w' := fun (u17 : Unit) => [(ad 0, .inr (8, xf0 ad)), (ad 1, .inr (7, ((xf1 ad).set 1 (.int 20)))), (ad 2, .inl (cB, 600, .inl (upd (upd (upd (upd gg16 (Int32.toNatClampNeg 16) (vp_nar .byte ((p5 >>> (24 &&& 31)).toInt8.toInt32))) (Int32.toNatClampNeg 17) (vp_nar .byte ((p5 >>> (16 &&& 31)).toInt8.toInt32))) (Int32.toNatClampNeg 18) (vp_nar .byte ((p5 >>> (8 &&& 31)).toInt8.toInt32))) (Int32.toNatClampNeg 19) (vp_nar .byte ((p5 >>> (0 &&& 31)).toInt8.toInt32)))))]) (va_runV (As := [.int p5]) (rest := []) ⟨hx, hb, hml, hown, hts⟩ (c_X7_addFour_15 l dC dI cB cI cJ cZ cP cQ ad H.size p5 gg16) (cwV 1 hts gX8_feed_X7_addFour rfl rfl rfl (by decide +kernel) ⟨Nat.le_of_ble_eq_true rfl, Nat.le_of_ble_eq_true rfl⟩) (z_pV (ci := 7) hK hP hD zX_nil [1, 2] (by decide) rfl rfl 1 rfl) rfl rfl hl.1 rfl (lv_room (Nat.le_of_ble_eq_true rfl)) dX8_feed_57 ⟨Nat.le_of_ble_eq_true rfl, Nat.le_of_ble_eq_true rfl⟩) hP hD hS hA [1, 2] [0] [0, 1, 2] rfl rfl (by decide) (by decide) (fun _ => rfl) (by decide) (fun u17 H locs hp19 hP hD hS => ?_)
  have hP : va_P (dC, dI) vwCl [(ad 0, .inr (8, xf0 ad)), (ad 1, .inr (7, ((xf1 ad).set 1 (.int 20)))), (ad 2, .inl (cB, 600, .inl (upd (upd (upd (upd gg16 (Int32.toNatClampNeg 16) (vp_nar .byte ((p5 >>> (24 &&& 31)).toInt8.toInt32))) (Int32.toNatClampNeg 17) (vp_nar .byte ((p5 >>> (16 &&& 31)).toInt8.toInt32))) (Int32.toNatClampNeg 18) (vp_nar .byte ((p5 >>> (8 &&& 31)).toInt8.toInt32))) (Int32.toNatClampNeg 19) (vp_nar .byte ((p5 >>> (0 &&& 31)).toInt8.toInt32)))))] H := hP
  have hD : va_D A [(ad 0, .inr (8, xf0 ad)), (ad 1, .inr (7, ((xf1 ad).set 1 (.int 20)))), (ad 2, .inl (cB, 600, .inl (upd (upd (upd (upd gg16 (Int32.toNatClampNeg 16) (vp_nar .byte ((p5 >>> (24 &&& 31)).toInt8.toInt32))) (Int32.toNatClampNeg 17) (vp_nar .byte ((p5 >>> (16 &&& 31)).toInt8.toInt32))) (Int32.toNatClampNeg 18) (vp_nar .byte ((p5 >>> (8 &&& 31)).toInt8.toInt32))) (Int32.toNatClampNeg 19) (vp_nar .byte ((p5 >>> (0 &&& 31)).toInt8.toInt32)))))] := hD
  obtain ⟨gg20, hgg20⟩ : ∃ g : Nat → Int32, g = upd (upd (upd (upd gg16 (Int32.toNatClampNeg 16) (vp_nar .byte ((p5 >>> (24 &&& 31)).toInt8.toInt32))) (Int32.toNatClampNeg 17) (vp_nar .byte ((p5 >>> (16 &&& 31)).toInt8.toInt32))) (Int32.toNatClampNeg 18) (vp_nar .byte ((p5 >>> (8 &&& 31)).toInt8.toInt32))) (Int32.toNatClampNeg 19) (vp_nar .byte ((p5 >>> (0 &&& 31)).toInt8.toInt32)) := ⟨_, rfl⟩
  rw [← hgg20] at hP hD
  refine W.widen (k := 0) (n := 0) (by decide) (by decide) ?_
  refine lv_aload_n hx hb dX8_feed_60 rfl (lv_at hl 0 rfl) ?_
  refine va_get (D := (dC, dI)) (ci := 8) (v := .ref (ad 1)) (C := RX8) (T := TX8) (N := 10) hx hb hts hi8 hown hK hP 0 rfl rfl 0 (by decide) hk0 (fun _ h9 => h9) rfl dX8_feed_61 ?_
  refine va_get (D := (dC, dI)) (ci := 7) (v := .int 20) (C := RX7) (T := TX7) (N := 8) hx hb hts hi7 hown hK hP 1 rfl rfl 1 (by decide) hk1 (fun _ h9 => h9) rfl dX8_feed_64 ?_
  have hP9 := hP.sub (ws' := []) [] rfl
  have hD9 := hD.sub (ws' := []) [] (by decide) rfl
  exact z_iret () hx hb hr hlocks hK hP9 hD9 hS hAe hQ rfl rfl dX8_feed_67
set_option maxHeartbeats 4000000 in
set_option maxRecDepth 100000 in
theorem c_X8_end_16 (l : Launch) (dC : Nat → ClassId) (dI : Nat → Nat → Nat) (cB cI cJ cZ cP cQ : ClassId) (ad : Nat → Nat) (sz : Nat) (p1 : Int32) : Met l yX8_end wsX8_end ({ frames := 0, cells := 0, slots := 0, locals := 0 } : Room) (zPc [.ref (ad 0), .int p1] (dC, dI) (zT cB cI cJ cZ cP cQ) [(ad 0, .inr (8, xf0 ad)), (ad 1, .inr (7, xf1 ad))] sz [] []) (va_Qi (fun r _ => (fun r => (r = (-1) ∧ p1.toInt < 0) ∨ (r = p1 ∧ 0 ≤ p1.toInt ∧ p1.toInt ≤ 0) ∨ (r = (-1) ∧ 0 ≤ p1.toInt ∧ 0 < p1.toInt)) r) (zB (dC, dI) (zT cB cI cJ cZ cP cQ) (fun _ : Unit => []) [(ad 0, .inr (8, xf0 ad)), (ad 1, .inr (7, xf1 ad))] sz) (va_A [(ad 0, .inr (8, xf0 ad)), (ad 1, .inr (7, xf1 ad))] sz)) 0 0 (va_A [(ad 0, .inr (8, xf0 ad)), (ad 1, .inr (7, xf1 ad))] sz) := by
  refine z_enter (cc := cX8_end) (maxL := 2) (ret := (some .int)) (by decide) rfl (Nat.le_of_ble_eq_true rfl) ?_
  intro p e s m below meth c A ls Q H locs hx hb hr hml hown hts hlocks hin hK hP hD hA hX hS hAe hQ hl
  have hown : s.vm.findClass RX8 = some m.cls := hown
  have hi7 : ∀ w ∈ wsX70, w ∈ wsX8_end := fun w h => List.mem_cons_of_mem _ (List.mem_append_right _ h)
  have hi8 : ∀ w ∈ wsX80, w ∈ wsX8_end := fun w h => List.mem_cons_of_mem _ (List.mem_append_left _ (List.mem_append_right _ h))
  have hk0 := hts (.fieldLink RX8 10 "MonthPush" "tape" "LMonthPush$Tape;") (by decide +kernel)
  have hk1 := hts (.fieldLink RX8 70 "MonthPush$Tape" "length" "I") (by decide +kernel)
  have hl : lv_has ls 2 [(0, .ref (ad 0)), (1, .int p1)] := hl
  refine lv_iload_n hx hb dX8_end_0 rfl (lv_at hl 1 rfl) ?_
  refine lv_if_lt (tgt := 15) hx hb dX8_end_1 (by decide) (fun c_1 => ?_) (fun c_1 => ?_)
  · have f2 : p1.toInt < 0 := z_lt rfl (by decide) c_1
    refine lv_iconst (v := (-1)) hx hb dX8_end_15 (by decide) ?_
    have hP9 := hP.sub (ws' := []) [] rfl
    have hD9 := hD.sub (ws' := []) [] (by decide) rfl
    exact z_iret () hx hb hr hlocks hK hP9 hD9 hS hAe hQ rfl (Or.inl (⟨rfl, f2⟩)) dX8_end_16
  · have f2 : 0 ≤ p1.toInt := z_nlt rfl (by decide) c_1
    refine lv_iload_n hx hb dX8_end_4 rfl (lv_at hl 1 rfl) ?_
    refine lv_aload_n hx hb dX8_end_5 rfl (lv_at hl 0 rfl) ?_
    refine va_get (D := (dC, dI)) (ci := 8) (v := .ref (ad 1)) (C := RX8) (T := TX8) (N := 10) hx hb hts hi8 hown hK hP 0 rfl rfl 0 (by decide) hk0 (fun _ h9 => h9) rfl dX8_end_6 ?_
    refine va_get (D := (dC, dI)) (ci := 7) (v := .int 0) (C := RX7) (T := TX7) (N := 8) hx hb hts hi7 hown hK hP 1 rfl rfl 1 (by decide) hk1 (fun _ h9 => h9) rfl dX8_end_9 ?_
    refine lv_icmp_le (tgt := 17) hx hb dX8_end_12 (by decide) (fun c_3 => ?_) (fun c_3 => ?_)
    · have f4 : p1.toInt ≤ 0 := z_le rfl (by decide) c_3
      refine lv_aload_n hx hb dX8_end_17 rfl (lv_at hl 0 rfl) ?_
      refine va_get (D := (dC, dI)) (ci := 8) (v := .ref (ad 1)) (C := RX8) (T := TX8) (N := 10) hx hb hts hi8 hown hK hP 0 rfl rfl 0 (by decide) hk0 (fun _ h9 => h9) rfl dX8_end_18 ?_
      refine lv_iload_n hx hb dX8_end_21 rfl (lv_at hl 1 rfl) ?_
      refine va_put (D := (dC, dI)) (ci := 7) (v := .int p1) (ty := .int) (C := RX7) (T := TX7) (N := 8) hx hb hts hi7 tyX7 tyX7_ok nmX7 hown hK hP hD hS 1 rfl rfl 1 (by decide) hk1 (fun _ h9 => h9) rfl (by decide +kernel) rfl rfl (Nat.le_of_ble_eq_true rfl) dX8_end_22 (fun H locs hP hD hS => ?_)
      have hP : va_P (dC, dI) vwCl [(ad 0, .inr (8, xf0 ad)), (ad 1, .inr (7, ((xf1 ad).set 1 (.int p1))))] H := hP
      have hD : va_D A [(ad 0, .inr (8, xf0 ad)), (ad 1, .inr (7, ((xf1 ad).set 1 (.int p1))))] := hD
      refine lv_iload_n hx hb dX8_end_25 rfl (lv_at hl 1 rfl) ?_
      have hP9 := hP.sub (ws' := []) [] rfl
      have hD9 := hD.sub (ws' := []) [] (by decide) rfl
      exact z_iret () hx hb hr hlocks hK hP9 hD9 hS hAe hQ rfl (Or.inr (Or.inl ⟨rfl, f2, f4⟩)) dX8_end_26
    · have f4 : 0 < p1.toInt := z_nle rfl (by decide) c_3
      refine lv_iconst (v := (-1)) hx hb dX8_end_15 (by decide) ?_
      have hP9 := hP.sub (ws' := []) [] rfl
      have hD9 := hD.sub (ws' := []) [] (by decide) rfl
      exact z_iret () hx hb hr hlocks hK hP9 hD9 hS hAe hQ rfl (Or.inr (Or.inr ⟨rfl, f2, f4⟩)) dX8_end_16
set_option maxHeartbeats 4000000 in
set_option maxRecDepth 100000 in
theorem c_X3_clear_19 (l : Launch) (dC : Nat → ClassId) (dI : Nat → Nat → Nat) (cB cI cJ cZ cP cQ : ClassId) (ad : Nat → Nat) (sz : Nat) : Met l yX3_clear wsX3_clear ({ frames := 1, cells := 0, slots := 0, locals := 23 } : Room) (zPc [.ref (ad 13)] (dC, dI) (zT cB cI cJ cZ cP cQ) [(ad 13, .inr (3, xf13 ad)), (ad 20, .inl (cI, 13, .inl (fun _ => (-1))))] sz [] []) (va_Qv (fun _ => True) (zB (dC, dI) (zT cB cI cJ cZ cP cQ) (fun _ : Unit => [(ad 13, .inr (3, xf13 ad)), (ad 20, .inl (cI, 13, .inl (fun _ => (-1))))]) [(ad 13, .inr (3, xf13 ad)), (ad 20, .inl (cI, 13, .inl (fun _ => (-1))))] sz) (va_A [(ad 13, .inr (3, xf13 ad)), (ad 20, .inl (cI, 13, .inl (fun _ => (-1))))] sz)) 0 0 (va_A [(ad 13, .inr (3, xf13 ad)), (ad 20, .inl (cI, 13, .inl (fun _ => (-1))))] sz) := by
  refine z_enter (cc := cX3_clear) (maxL := 1) (ret := none) (by decide) rfl (Nat.le_of_ble_eq_true rfl) ?_
  intro p e s m below meth c A ls Q H locs hx hb hr hml hown hts hlocks hin hK hP hD hA hX hS hAe hQ hl
  have hown : s.vm.findClass RX3 = some m.cls := hown
  have hi3 : ∀ w ∈ wsX30, w ∈ wsX3_clear := fun w h => List.mem_cons_of_mem _ (List.mem_append_right _ h)
  have hk0 := hts (.fieldLink RX3 45 "MonthPush$Land" "lines" "I") (by decide +kernel)
  have hk1 := hts (.fieldLink RX3 49 "MonthPush$Land" "laws" "I") (by decide +kernel)
  have hk2 := hts (.fieldLink RX3 52 "MonthPush$Land" "sorts" "I") (by decide +kernel)
  have hk3 := hts (.fieldLink RX3 55 "MonthPush$Land" "shares" "I") (by decide +kernel)
  have hk4 := hts (.fieldLink RX3 58 "MonthPush$Land" "parts" "I") (by decide +kernel)
  have hk5 := hts (.fieldLink RX3 61 "MonthPush$Land" "noise" "I") (by decide +kernel)
  have hk6 := hts (.fieldLink RX3 64 "MonthPush$Land" "noiseTold" "Z") (by decide +kernel)
  have hk7 := hts (.fieldLink RX3 30 "MonthPush$Land" "leakBy" "[I") (by decide +kernel)
  have hl : lv_has ls 1 [(0, .ref (ad 13))] := hl
  refine lv_aload_n hx hb dX3_clear_0 rfl (lv_at hl 0 rfl) ?_
  refine lv_iconst (v := 0) hx hb dX3_clear_1 (by decide) ?_
  refine z_put0 (D := (dC, dI)) (ci := 3) (v := .int 0) (ty := .int) (C := RX3) (T := TX3) (N := 16) hx hb hts hi3 tyX3 tyX3_ok nmX3 hown hK hP hD hS 0 rfl rfl 0 (by decide) hk0 (fun _ h9 => h9) rfl (by decide +kernel) rfl rfl rfl dX3_clear_2 (fun H locs hP hS => ?_)
  refine lv_aload_n hx hb dX3_clear_5 rfl (lv_at hl 0 rfl) ?_
  refine lv_iconst (v := 0) hx hb dX3_clear_6 (by decide) ?_
  refine z_put0 (D := (dC, dI)) (ci := 3) (v := .int 0) (ty := .int) (C := RX3) (T := TX3) (N := 16) hx hb hts hi3 tyX3 tyX3_ok nmX3 hown hK hP hD hS 0 rfl rfl 1 (by decide) hk1 (fun _ h9 => h9) rfl (by decide +kernel) rfl rfl rfl dX3_clear_7 (fun H locs hP hS => ?_)
  refine lv_aload_n hx hb dX3_clear_10 rfl (lv_at hl 0 rfl) ?_
  refine lv_iconst (v := 0) hx hb dX3_clear_11 (by decide) ?_
  refine z_put0 (D := (dC, dI)) (ci := 3) (v := .int 0) (ty := .int) (C := RX3) (T := TX3) (N := 16) hx hb hts hi3 tyX3 tyX3_ok nmX3 hown hK hP hD hS 0 rfl rfl 2 (by decide) hk2 (fun _ h9 => h9) rfl (by decide +kernel) rfl rfl rfl dX3_clear_12 (fun H locs hP hS => ?_)
  refine lv_aload_n hx hb dX3_clear_15 rfl (lv_at hl 0 rfl) ?_
  refine lv_iconst (v := 0) hx hb dX3_clear_16 (by decide) ?_
  refine z_put0 (D := (dC, dI)) (ci := 3) (v := .int 0) (ty := .int) (C := RX3) (T := TX3) (N := 16) hx hb hts hi3 tyX3 tyX3_ok nmX3 hown hK hP hD hS 0 rfl rfl 3 (by decide) hk3 (fun _ h9 => h9) rfl (by decide +kernel) rfl rfl rfl dX3_clear_17 (fun H locs hP hS => ?_)
  refine lv_aload_n hx hb dX3_clear_20 rfl (lv_at hl 0 rfl) ?_
  refine lv_iconst (v := 0) hx hb dX3_clear_21 (by decide) ?_
  refine z_put0 (D := (dC, dI)) (ci := 3) (v := .int 0) (ty := .int) (C := RX3) (T := TX3) (N := 16) hx hb hts hi3 tyX3 tyX3_ok nmX3 hown hK hP hD hS 0 rfl rfl 4 (by decide) hk4 (fun _ h9 => h9) rfl (by decide +kernel) rfl rfl rfl dX3_clear_22 (fun H locs hP hS => ?_)
  refine lv_aload_n hx hb dX3_clear_25 rfl (lv_at hl 0 rfl) ?_
  refine lv_iconst (v := 0) hx hb dX3_clear_26 (by decide) ?_
  refine z_put0 (D := (dC, dI)) (ci := 3) (v := .int 0) (ty := .int) (C := RX3) (T := TX3) (N := 16) hx hb hts hi3 tyX3 tyX3_ok nmX3 hown hK hP hD hS 0 rfl rfl 5 (by decide) hk5 (fun _ h9 => h9) rfl (by decide +kernel) rfl rfl rfl dX3_clear_27 (fun H locs hP hS => ?_)
  refine lv_aload_n hx hb dX3_clear_30 rfl (lv_at hl 0 rfl) ?_
  refine lv_iconst (v := 0) hx hb dX3_clear_31 (by decide) ?_
  refine z_put0 (D := (dC, dI)) (ci := 3) (v := .int 0) (ty := .boolean) (C := RX3) (T := TX3) (N := 16) hx hb hts hi3 tyX3 tyX3_ok nmX3 hown hK hP hD hS 0 rfl rfl 6 (by decide) hk6 (fun _ h9 => h9) rfl (by decide +kernel) rfl rfl rfl dX3_clear_32 (fun H locs hP hS => ?_)
  refine lv_aload_n hx hb dX3_clear_35 rfl (lv_at hl 0 rfl) ?_
  refine va_get (D := (dC, dI)) (ci := 3) (v := .ref (ad 20)) (C := RX3) (T := TX3) (N := 16) hx hb hts hi3 hown hK hP 0 rfl rfl 13 (by decide) hk7 (fun _ h9 => h9) rfl dX3_clear_36 ?_
  refine lv_iconst (v := (-1)) hx hb dX3_clear_39 (by decide) ?_
  refine z_finv (w' := fun (u1 : Unit) => [(ad 13, .inr (3, xf13 ad)), (ad 20, .inl (cI, 13, .inl (fun _ => (-1))))]) (va_runS (As := [.ref (ad 20), .int (-1)]) (rest := []) ⟨hx, hb, hml, hown, hts⟩ (c_fillI l dC dI cB cI cJ cZ cP cQ (ad 20) H.size 13 (fun _ => (-1)) (-1) (by decide)) (va_cwS 2 hts gX3_clear_J7_fill_53178 rfl rfl rfl (by decide +kernel) ⟨Nat.le_of_ble_eq_true rfl, Nat.le_of_ble_eq_true rfl⟩) (z_pS hK hP hD zX_nil [1] (by decide) rfl) rfl rfl hl.1 rfl (lv_room (Nat.le_of_ble_eq_true rfl)) dX3_clear_40 ⟨Nat.le_of_ble_eq_true rfl, Nat.le_of_ble_eq_true rfl⟩) hP hD hS hA [1] [0] [0, 1] rfl rfl (by decide) (by decide) (fun _ => rfl) (by decide) (fun u1 H locs hp3 hP hD hS => ?_)
  have hP : va_P (dC, dI) vwCl [(ad 13, .inr (3, xf13 ad)), (ad 20, .inl (cI, 13, .inl (fun _ => (-1))))] H := hP
  have hD : va_D A [(ad 13, .inr (3, xf13 ad)), (ad 20, .inl (cI, 13, .inl (fun _ => (-1))))] := hD
  refine W.widen (k := 0) (n := 0) (by decide) (by decide) ?_
  exact z_vret () hx hb hr hlocks hK hP hD hS hAe hQ rfl trivial dX3_clear_43
set_option maxHeartbeats 4000000 in
set_option maxRecDepth 100000 in
theorem c_X7_step_20 (l : Launch) (dC : Nat → ClassId) (dI : Nat → Nat → Nat) (cB cI cJ cZ cP cQ : ClassId) (ad : Nat → Nat) (sz : Nat) : Met l yX7_step wsX7_step ({ frames := 0, cells := 0, slots := 0, locals := 0 } : Room) (zPc [.ref (ad 1)] (dC, dI) (zT cB cI cJ cZ cP cQ) [(ad 1, .inr (7, xf1 ad))] sz [] []) (va_Qv (fun _ => True) (zB (dC, dI) (zT cB cI cJ cZ cP cQ) (fun _ : Unit => [(ad 1, .inr (7, xf1 ad))]) [(ad 1, .inr (7, xf1 ad))] sz) (va_A [(ad 1, .inr (7, xf1 ad))] sz)) 0 0 (va_A [(ad 1, .inr (7, xf1 ad))] sz) := by
  refine z_enter (cc := cX7_step) (maxL := 1) (ret := none) (by decide) rfl (Nat.le_of_ble_eq_true rfl) ?_
  intro p e s m below meth c A ls Q H locs hx hb hr hml hown hts hlocks hin hK hP hD hA hX hS hAe hQ hl
  have hown : s.vm.findClass RX7 = some m.cls := hown
  have hi7 : ∀ w ∈ wsX70, w ∈ wsX7_step := fun w h => List.mem_cons_of_mem _ (List.mem_append_right _ h)
  have hk0 := hts (.fieldLink RX7 25 "MonthPush$Tape" "next" "I") (by decide +kernel)
  have hk1 := hts (.fieldLink RX7 19 "MonthPush$Tape" "length" "I") (by decide +kernel)
  have hk2 := hts (.fieldLink RX7 170 "MonthPush$Tape" "start" "I") (by decide +kernel)
  have hk3 := hts (.fieldLink RX7 116 "MonthPush$Tape" "value" "I") (by decide +kernel)
  have hk4 := hts (.fieldLink RX7 36 "MonthPush$Tape" "kind" "I") (by decide +kernel)
  have hl : lv_has ls 1 [(0, .ref (ad 1))] := hl
  refine lv_aload_n hx hb dX7_step_0 rfl (lv_at hl 0 rfl) ?_
  refine va_get (D := (dC, dI)) (ci := 7) (v := .int 0) (C := RX7) (T := TX7) (N := 8) hx hb hts hi7 hown hK hP 0 rfl rfl 4 (by decide) hk0 (fun _ h9 => h9) rfl dX7_step_1 ?_
  refine lv_aload_n hx hb dX7_step_4 rfl (lv_at hl 0 rfl) ?_
  refine va_get (D := (dC, dI)) (ci := 7) (v := .int 0) (C := RX7) (T := TX7) (N := 8) hx hb hts hi7 hown hK hP 0 rfl rfl 1 (by decide) hk1 (fun _ h9 => h9) rfl dX7_step_5 ?_
  refine lv_icmp_ge (tgt := 52) hx hb dX7_step_8 (by decide) (fun _ => ?_) (fun c => absurd (by decide) c)
  refine lv_aload_n hx hb dX7_step_52 rfl (lv_at hl 0 rfl) ?_
  refine lv_aload_n hx hb dX7_step_53 rfl (lv_at hl 0 rfl) ?_
  refine va_get (D := (dC, dI)) (ci := 7) (v := .int 0) (C := RX7) (T := TX7) (N := 8) hx hb hts hi7 hown hK hP 0 rfl rfl 4 (by decide) hk0 (fun _ h9 => h9) rfl dX7_step_54 ?_
  refine z_put0 (D := (dC, dI)) (ci := 7) (v := .int 0) (ty := .int) (C := RX7) (T := TX7) (N := 8) hx hb hts hi7 tyX7 tyX7_ok nmX7 hown hK hP hD hS 0 rfl rfl 6 (by decide) hk2 (fun _ h9 => h9) rfl (by decide +kernel) rfl rfl rfl dX7_step_57 (fun H locs hP hS => ?_)
  refine lv_aload_n hx hb dX7_step_60 rfl (lv_at hl 0 rfl) ?_
  refine lv_iconst (v := 0) hx hb dX7_step_61 (by decide) ?_
  refine z_put0 (D := (dC, dI)) (ci := 7) (v := .int 0) (ty := .int) (C := RX7) (T := TX7) (N := 8) hx hb hts hi7 tyX7 tyX7_ok nmX7 hown hK hP hD hS 0 rfl rfl 7 (by decide) hk3 (fun _ h9 => h9) rfl (by decide +kernel) rfl rfl rfl dX7_step_62 (fun H locs hP hS => ?_)
  refine lv_aload_n hx hb dX7_step_65 rfl (lv_at hl 0 rfl) ?_
  refine va_get (D := (dC, dI)) (ci := 7) (v := .int 0) (C := RX7) (T := TX7) (N := 8) hx hb hts hi7 hown hK hP 0 rfl rfl 4 (by decide) hk0 (fun _ h9 => h9) rfl dX7_step_66 ?_
  refine lv_aload_n hx hb dX7_step_69 rfl (lv_at hl 0 rfl) ?_
  refine va_get (D := (dC, dI)) (ci := 7) (v := .int 0) (C := RX7) (T := TX7) (N := 8) hx hb hts hi7 hown hK hP 0 rfl rfl 1 (by decide) hk1 (fun _ h9 => h9) rfl dX7_step_70 ?_
  refine lv_icmp_lt (tgt := 84) hx hb dX7_step_73 (by decide) (fun c => absurd c (by decide)) (fun _ => ?_)
  refine lv_aload_n hx hb dX7_step_76 rfl (lv_at hl 0 rfl) ?_
  refine lv_iconst (v := 0) hx hb dX7_step_77 (by decide) ?_
  refine z_put0 (D := (dC, dI)) (ci := 7) (v := .int 0) (ty := .int) (C := RX7) (T := TX7) (N := 8) hx hb hts hi7 tyX7 tyX7_ok nmX7 hown hK hP hD hS 0 rfl rfl 5 (by decide) hk4 (fun _ h9 => h9) rfl (by decide +kernel) rfl rfl rfl dX7_step_78 (fun H locs hP hS => ?_)
  refine lv_goto (tgt := 264) hx hb dX7_step_81 (by decide) ?_
  exact z_vret () hx hb hr hlocks hK hP hD hS hAe hQ rfl trivial dX7_step_264
set_option maxHeartbeats 4000000 in
set_option maxRecDepth 100000 in
theorem c_X7_readInto_20 (l : Launch) (dC : Nat → ClassId) (dI : Nat → Nat → Nat) (cB cI cJ cZ cP cQ : ClassId) (ad : Nat → Nat) (sz : Nat) : Met l yX7_readInto wsX7_readInto ({ frames := 2, cells := 0, slots := 0, locals := 43 } : Room) (zPc [.ref (ad 1), .ref (ad 13)] (dC, dI) (zT cB cI cJ cZ cP cQ) [(ad 1, .inr (7, xf1 ad)), (ad 13, .inr (3, xf13 ad)), (ad 20, .inl (cI, 13, .inl (fun _ => (-1))))] sz [] []) (va_Qv (fun _ => True) (zB (dC, dI) (zT cB cI cJ cZ cP cQ) (fun _ : Unit => [(ad 1, .inr (7, xf1 ad)), (ad 13, .inr (3, xf13 ad)), (ad 20, .inl (cI, 13, .inl (fun _ => (-1))))]) [(ad 1, .inr (7, xf1 ad)), (ad 13, .inr (3, xf13 ad)), (ad 20, .inl (cI, 13, .inl (fun _ => (-1))))] sz) (va_A [(ad 1, .inr (7, xf1 ad)), (ad 13, .inr (3, xf13 ad)), (ad 20, .inl (cI, 13, .inl (fun _ => (-1))))] sz)) 0 0 (va_A [(ad 1, .inr (7, xf1 ad)), (ad 13, .inr (3, xf13 ad)), (ad 20, .inl (cI, 13, .inl (fun _ => (-1))))] sz) := by
  refine z_enter (cc := cX7_readInto) (maxL := 3) (ret := none) (by decide) rfl (Nat.le_of_ble_eq_true rfl) ?_
  intro p e s m below meth c A ls Q H locs hx hb hr hml hown hts hlocks hin hK hP hD hA hX hS hAe hQ hl
  have hown : s.vm.findClass RX7 = some m.cls := hown
  have hi7 : ∀ w ∈ wsX70, w ∈ wsX7_readInto := fun w h => List.mem_cons_of_mem _ (List.mem_append_left _ (List.mem_append_right _ h))
  have hk0 := hts (.fieldLink RX7 22 "MonthPush$Tape" "fault" "I") (by decide +kernel)
  have hk1 := hts (.fieldLink RX7 15 "MonthPush$Tape" "place" "I") (by decide +kernel)
  have hk2 := hts (.fieldLink RX7 25 "MonthPush$Tape" "next" "I") (by decide +kernel)
  have hk3 := hts (.fieldLink RX7 36 "MonthPush$Tape" "kind" "I") (by decide +kernel)
  have hl : lv_has ls 3 [(0, .ref (ad 1)), (1, .ref (ad 13))] := hl
  refine lv_aload_n hx hb dX7_readInto_0 rfl (lv_at hl 0 rfl) ?_
  refine lv_iconst (v := 0) hx hb dX7_readInto_1 (by decide) ?_
  refine z_put0 (D := (dC, dI)) (ci := 7) (v := .int 0) (ty := .int) (C := RX7) (T := TX7) (N := 8) hx hb hts hi7 tyX7 tyX7_ok nmX7 hown hK hP hD hS 0 rfl rfl 2 (by decide) hk0 (fun _ h9 => h9) rfl (by decide +kernel) rfl rfl rfl dX7_readInto_2 (fun H locs hP hS => ?_)
  refine lv_aload_n hx hb dX7_readInto_5 rfl (lv_at hl 0 rfl) ?_
  refine lv_iconst (v := (-1)) hx hb dX7_readInto_6 (by decide) ?_
  refine z_put0 (D := (dC, dI)) (ci := 7) (v := .int (-1)) (ty := .int) (C := RX7) (T := TX7) (N := 8) hx hb hts hi7 tyX7 tyX7_ok nmX7 hown hK hP hD hS 0 rfl rfl 3 (by decide) hk1 (fun _ h9 => h9) rfl (by decide +kernel) rfl rfl rfl dX7_readInto_7 (fun H locs hP hS => ?_)
  refine lv_aload_n hx hb dX7_readInto_10 rfl (lv_at hl 0 rfl) ?_
  refine lv_iconst (v := 0) hx hb dX7_readInto_11 (by decide) ?_
  refine z_put0 (D := (dC, dI)) (ci := 7) (v := .int 0) (ty := .int) (C := RX7) (T := TX7) (N := 8) hx hb hts hi7 tyX7 tyX7_ok nmX7 hown hK hP hD hS 0 rfl rfl 4 (by decide) hk2 (fun _ h9 => h9) rfl (by decide +kernel) rfl rfl rfl dX7_readInto_12 (fun H locs hP hS => ?_)
  refine lv_aload_n hx hb dX7_readInto_15 rfl (lv_at hl 1 rfl) ?_
  refine z_finv (w' := fun (u1 : Unit) => [(ad 1, .inr (7, xf1 ad)), (ad 13, .inr (3, xf13 ad)), (ad 20, .inl (cI, 13, .inl (fun _ => (-1))))]) (va_runV (As := []) (rest := []) ⟨hx, hb, hml, hown, hts⟩ (c_X3_clear_19 l dC dI cB cI cJ cZ cP cQ ad H.size) (cwV 0 hts gX7_readInto_X3_clear rfl rfl rfl (by decide +kernel) ⟨Nat.le_of_ble_eq_true rfl, Nat.le_of_ble_eq_true rfl⟩) (z_pV (ci := 3) hK hP hD zX_nil [1, 2] (by decide) rfl rfl 1 rfl) rfl rfl hl.1 rfl (lv_room (Nat.le_of_ble_eq_true rfl)) dX7_readInto_16 ⟨Nat.le_of_ble_eq_true rfl, Nat.le_of_ble_eq_true rfl⟩) hP hD hS hA [1, 2] [0] [0, 1, 2] rfl rfl (by decide) (by decide) (fun _ => rfl) (by decide) (fun u1 H locs hp3 hP hD hS => ?_)
  have hP : va_P (dC, dI) vwCl [(ad 1, .inr (7, xf1 ad)), (ad 13, .inr (3, xf13 ad)), (ad 20, .inl (cI, 13, .inl (fun _ => (-1))))] H := hP
  have hD : va_D A [(ad 1, .inr (7, xf1 ad)), (ad 13, .inr (3, xf13 ad)), (ad 20, .inl (cI, 13, .inl (fun _ => (-1))))] := hD
  refine W.widen (k := 0) (n := 0) (by decide) (by decide) ?_
  refine lv_aload_n hx hb dX7_readInto_19 rfl (lv_at hl 0 rfl) ?_
  refine z_finv (w' := fun (u4 : Unit) => [(ad 1, .inr (7, xf1 ad)), (ad 13, .inr (3, xf13 ad)), (ad 20, .inl (cI, 13, .inl (fun _ => (-1))))]) (va_runV (As := []) (rest := []) ⟨hx, hb, hml, hown, hts⟩ (c_X7_step_20 l dC dI cB cI cJ cZ cP cQ ad H.size) (cwV 0 hts gX7_readInto_X7_step rfl rfl rfl (by decide +kernel) ⟨Nat.le_of_ble_eq_true rfl, Nat.le_of_ble_eq_true rfl⟩) (z_pV (ci := 7) hK hP hD zX_nil [0] (by decide) rfl rfl 0 rfl) rfl rfl hl.1 rfl (lv_room (Nat.le_of_ble_eq_true rfl)) dX7_readInto_20 ⟨Nat.le_of_ble_eq_true rfl, Nat.le_of_ble_eq_true rfl⟩) hP hD hS hA [0] [1, 2] [2, 0, 1] rfl rfl (by decide) (by decide) (fun _ => rfl) (by decide) (fun u4 H locs hp6 hP hD hS => ?_)
  have hP : va_P (dC, dI) vwCl [(ad 1, .inr (7, xf1 ad)), (ad 13, .inr (3, xf13 ad)), (ad 20, .inl (cI, 13, .inl (fun _ => (-1))))] H := hP
  have hD : va_D A [(ad 1, .inr (7, xf1 ad)), (ad 13, .inr (3, xf13 ad)), (ad 20, .inl (cI, 13, .inl (fun _ => (-1))))] := hD
  refine W.widen (k := 0) (n := 0) (by decide) (by decide) ?_
  refine lv_iconst (v := 0) hx hb dX7_readInto_23 (by decide) ?_
  refine lv_istore_n (lv' := [(2, .int 0), (0, .ref (ad 1)), (1, .ref (ad 13))]) hx hb dX7_readInto_24 rfl hl (by decide) rfl (fun ls hl => ?_)
  refine lv_iload_n hx hb dX7_readInto_25 rfl (lv_at hl 0 rfl) ?_
  refine lv_sipush (v := 600) hx hb dX7_readInto_26 (by decide) ?_
  refine lv_icmp_ge (tgt := 67) hx hb dX7_readInto_29 (by decide) (fun c => absurd c (by decide)) (fun _ => ?_)
  refine lv_aload_n hx hb dX7_readInto_32 rfl (lv_at hl 1 rfl) ?_
  refine va_get (D := (dC, dI)) (ci := 7) (v := .int 0) (C := RX7) (T := TX7) (N := 8) hx hb hts hi7 hown hK hP 0 rfl rfl 5 (by decide) hk3 (fun _ h9 => h9) rfl dX7_readInto_33 ?_
  refine lv_if_eq (tgt := 67) hx hb dX7_readInto_36 (by decide) (fun _ => ?_) (fun c => absurd (by decide) c)
  exact z_vret () hx hb hr hlocks hK hP hD hS hAe hQ rfl trivial dX7_readInto_67
set_option maxHeartbeats 4000000 in
set_option maxRecDepth 100000 in
theorem c_X8_land_20 (l : Launch) (dC : Nat → ClassId) (dI : Nat → Nat → Nat) (cB cI cJ cZ cP cQ : ClassId) (ad : Nat → Nat) (sz : Nat) : Met l yX8_land wsX8_land ({ frames := 3, cells := 0, slots := 0, locals := 65 } : Room) (zPc [.ref (ad 0)] (dC, dI) (zT cB cI cJ cZ cP cQ) [(ad 0, .inr (8, xf0 ad)), (ad 1, .inr (7, xf1 ad)), (ad 13, .inr (3, xf13 ad)), (ad 20, .inl (cI, 13, .inl (fun _ => (-1))))] sz [] []) (va_Qi (fun r _ => (fun r => r = 0) r) (zB (dC, dI) (zT cB cI cJ cZ cP cQ) (fun _ : Unit => []) [(ad 0, .inr (8, xf0 ad)), (ad 1, .inr (7, xf1 ad)), (ad 13, .inr (3, xf13 ad)), (ad 20, .inl (cI, 13, .inl (fun _ => (-1))))] sz) (va_A [(ad 0, .inr (8, xf0 ad)), (ad 1, .inr (7, xf1 ad)), (ad 13, .inr (3, xf13 ad)), (ad 20, .inl (cI, 13, .inl (fun _ => (-1))))] sz)) 0 0 (va_A [(ad 0, .inr (8, xf0 ad)), (ad 1, .inr (7, xf1 ad)), (ad 13, .inr (3, xf13 ad)), (ad 20, .inl (cI, 13, .inl (fun _ => (-1))))] sz) := by
  refine z_enter (cc := cX8_land) (maxL := 2) (ret := (some .int)) (by decide) rfl (Nat.le_of_ble_eq_true rfl) ?_
  intro p e s m below meth c A ls Q H locs hx hb hr hml hown hts hlocks hin hK hP hD hA hX hS hAe hQ hl
  have hown : s.vm.findClass RX8 = some m.cls := hown
  have hi3 : ∀ w ∈ wsX30, w ∈ wsX8_land := fun w h => List.mem_cons_of_mem _ (List.mem_append_right _ h)
  have hi7 : ∀ w ∈ wsX70, w ∈ wsX8_land := fun w h => List.mem_cons_of_mem _ (List.mem_append_left _ (List.mem_append_right _ h))
  have hi8 : ∀ w ∈ wsX80, w ∈ wsX8_land := fun w h => List.mem_cons_of_mem _ (List.mem_append_left _ (List.mem_append_left _ (List.mem_append_right _ h)))
  have hk0 := hts (.fieldLink RX8 10 "MonthPush" "tape" "LMonthPush$Tape;") (by decide +kernel)
  have hk1 := hts (.fieldLink RX8 23 "MonthPush" "draft" "LMonthPush$Land;") (by decide +kernel)
  have hk2 := hts (.fieldLink RX8 82 "MonthPush$Tape" "fault" "I") (by decide +kernel)
  have hk3 := hts (.fieldLink RX8 70 "MonthPush$Tape" "length" "I") (by decide +kernel)
  have hk4 := hts (.fieldLink RX8 19 "MonthPush" "now" "LMonthPush$Land;") (by decide +kernel)
  have hk5 := hts (.fieldLink RX8 85 "MonthPush$Land" "lines" "I") (by decide +kernel)
  have hl : lv_has ls 2 [(0, .ref (ad 0))] := hl
  refine lv_aload_n hx hb dX8_land_0 rfl (lv_at hl 0 rfl) ?_
  refine va_get (D := (dC, dI)) (ci := 8) (v := .ref (ad 1)) (C := RX8) (T := TX8) (N := 10) hx hb hts hi8 hown hK hP 0 rfl rfl 0 (by decide) hk0 (fun _ h9 => h9) rfl dX8_land_1 ?_
  refine lv_aload_n hx hb dX8_land_4 rfl (lv_at hl 0 rfl) ?_
  refine va_get (D := (dC, dI)) (ci := 8) (v := .ref (ad 13)) (C := RX8) (T := TX8) (N := 10) hx hb hts hi8 hown hK hP 0 rfl rfl 2 (by decide) hk1 (fun _ h9 => h9) rfl dX8_land_5 ?_
  refine z_finv (w' := fun (u1 : Unit) => [(ad 0, .inr (8, xf0 ad)), (ad 1, .inr (7, xf1 ad)), (ad 13, .inr (3, xf13 ad)), (ad 20, .inl (cI, 13, .inl (fun _ => (-1))))]) (va_runV (As := [.ref (ad 13)]) (rest := []) ⟨hx, hb, hml, hown, hts⟩ (c_X7_readInto_20 l dC dI cB cI cJ cZ cP cQ ad H.size) (cwV 1 hts gX8_land_X7_readInto rfl rfl rfl (by decide +kernel) ⟨Nat.le_of_ble_eq_true rfl, Nat.le_of_ble_eq_true rfl⟩) (z_pV (ci := 7) hK hP hD zX_nil [1, 2, 3] (by decide) rfl rfl 1 rfl) rfl rfl hl.1 rfl (lv_room (Nat.le_of_ble_eq_true rfl)) dX8_land_8 ⟨Nat.le_of_ble_eq_true rfl, Nat.le_of_ble_eq_true rfl⟩) hP hD hS hA [1, 2, 3] [0] [0, 1, 2, 3] rfl rfl (by decide) (by decide) (fun _ => rfl) (by decide) (fun u1 H locs hp3 hP hD hS => ?_)
  have hP : va_P (dC, dI) vwCl [(ad 0, .inr (8, xf0 ad)), (ad 1, .inr (7, xf1 ad)), (ad 13, .inr (3, xf13 ad)), (ad 20, .inl (cI, 13, .inl (fun _ => (-1))))] H := hP
  have hD : va_D A [(ad 0, .inr (8, xf0 ad)), (ad 1, .inr (7, xf1 ad)), (ad 13, .inr (3, xf13 ad)), (ad 20, .inl (cI, 13, .inl (fun _ => (-1))))] := hD
  refine W.widen (k := 0) (n := 0) (by decide) (by decide) ?_
  refine lv_aload_n hx hb dX8_land_11 rfl (lv_at hl 0 rfl) ?_
  refine va_get (D := (dC, dI)) (ci := 8) (v := .ref (ad 1)) (C := RX8) (T := TX8) (N := 10) hx hb hts hi8 hown hK hP 0 rfl rfl 0 (by decide) hk0 (fun _ h9 => h9) rfl dX8_land_12 ?_
  refine va_get (D := (dC, dI)) (ci := 7) (v := .int 0) (C := RX7) (T := TX7) (N := 8) hx hb hts hi7 hown hK hP 1 rfl rfl 2 (by decide) hk2 (fun _ h9 => h9) rfl dX8_land_15 ?_
  refine lv_if_eq (tgt := 24) hx hb dX8_land_18 (by decide) (fun _ => ?_) (fun c => absurd (by decide) c)
  refine lv_aload_n hx hb dX8_land_24 rfl (lv_at hl 0 rfl) ?_
  refine va_get (D := (dC, dI)) (ci := 8) (v := .ref (ad 1)) (C := RX8) (T := TX8) (N := 10) hx hb hts hi8 hown hK hP 0 rfl rfl 0 (by decide) hk0 (fun _ h9 => h9) rfl dX8_land_25 ?_
  refine lv_iconst (v := 0) hx hb dX8_land_28 (by decide) ?_
  refine z_put0 (D := (dC, dI)) (ci := 7) (v := .int 0) (ty := .int) (C := RX7) (T := TX7) (N := 8) hx hb hts hi7 tyX7 tyX7_ok nmX7 hown hK hP hD hS 1 rfl rfl 1 (by decide) hk3 (fun _ h9 => h9) rfl (by decide +kernel) rfl rfl rfl dX8_land_29 (fun H locs hP hS => ?_)
  refine lv_aload_n hx hb dX8_land_32 rfl (lv_at hl 0 rfl) ?_
  refine va_get (D := (dC, dI)) (ci := 8) (v := .ref (ad 3)) (C := RX8) (T := TX8) (N := 10) hx hb hts hi8 hown hK hP 0 rfl rfl 1 (by decide) hk4 (fun _ h9 => h9) rfl dX8_land_33 ?_
  refine lv_astore_n (lv' := [(1, .ref (ad 3)), (0, .ref (ad 0))]) hx hb dX8_land_36 rfl hl (by decide) rfl (fun ls hl => ?_)
  refine lv_aload_n hx hb dX8_land_37 rfl (lv_at hl 1 rfl) ?_
  refine lv_aload_n hx hb dX8_land_38 rfl (lv_at hl 1 rfl) ?_
  refine va_get (D := (dC, dI)) (ci := 8) (v := .ref (ad 13)) (C := RX8) (T := TX8) (N := 10) hx hb hts hi8 hown hK hP 0 rfl rfl 2 (by decide) hk1 (fun _ h9 => h9) rfl dX8_land_39 ?_
  refine va_put (D := (dC, dI)) (ci := 8) (v := .ref (ad 13)) (ty := .object "MonthPush$Land") (C := RX8) (T := TX8) (N := 10) hx hb hts hi8 tyX8 tyX8_ok nmX8 hown hK hP hD hS 0 rfl rfl 1 (by decide) hk4 (fun _ h9 => h9) rfl (by decide +kernel) rfl rfl (Nat.le_of_ble_eq_true rfl) dX8_land_42 (fun H locs hP hD hS => ?_)
  have hP : va_P (dC, dI) vwCl [(ad 0, .inr (8, ((xf0 ad).set 1 (.ref (ad 13))))), (ad 1, .inr (7, xf1 ad)), (ad 13, .inr (3, xf13 ad)), (ad 20, .inl (cI, 13, .inl (fun _ => (-1))))] H := hP
  have hD : va_D A [(ad 0, .inr (8, ((xf0 ad).set 1 (.ref (ad 13))))), (ad 1, .inr (7, xf1 ad)), (ad 13, .inr (3, xf13 ad)), (ad 20, .inl (cI, 13, .inl (fun _ => (-1))))] := hD
  refine lv_aload_n hx hb dX8_land_45 rfl (lv_at hl 1 rfl) ?_
  refine lv_aload_n hx hb dX8_land_46 rfl (lv_at hl 0 rfl) ?_
  refine va_put (D := (dC, dI)) (ci := 8) (v := .ref (ad 3)) (ty := .object "MonthPush$Land") (C := RX8) (T := TX8) (N := 10) hx hb hts hi8 tyX8 tyX8_ok nmX8 hown hK hP hD hS 0 rfl rfl 2 (by decide) hk1 (fun _ h9 => h9) rfl (by decide +kernel) rfl rfl (Nat.le_of_ble_eq_true rfl) dX8_land_47 (fun H locs hP hD hS => ?_)
  have hP : va_P (dC, dI) vwCl [(ad 0, .inr (8, (((xf0 ad).set 1 (.ref (ad 13))).set 2 (.ref (ad 3))))), (ad 1, .inr (7, xf1 ad)), (ad 13, .inr (3, xf13 ad)), (ad 20, .inl (cI, 13, .inl (fun _ => (-1))))] H := hP
  have hD : va_D A [(ad 0, .inr (8, (((xf0 ad).set 1 (.ref (ad 13))).set 2 (.ref (ad 3))))), (ad 1, .inr (7, xf1 ad)), (ad 13, .inr (3, xf13 ad)), (ad 20, .inl (cI, 13, .inl (fun _ => (-1))))] := hD
  refine lv_aload_n hx hb dX8_land_50 rfl (lv_at hl 1 rfl) ?_
  refine va_get (D := (dC, dI)) (ci := 8) (v := .ref (ad 13)) (C := RX8) (T := TX8) (N := 10) hx hb hts hi8 hown hK hP 0 rfl rfl 1 (by decide) hk4 (fun _ h9 => h9) rfl dX8_land_51 ?_
  refine va_get (D := (dC, dI)) (ci := 3) (v := .int 0) (C := RX3) (T := TX3) (N := 16) hx hb hts hi3 hown hK hP 2 rfl rfl 0 (by decide) hk5 (fun _ h9 => h9) rfl dX8_land_54 ?_
  have hP9 := hP.sub (ws' := []) [] rfl
  have hD9 := hD.sub (ws' := []) [] (by decide) rfl
  exact z_iret () hx hb hr hlocks hK hP9 hD9 hS hAe hQ rfl rfl dX8_land_57
set_option maxHeartbeats 4000000 in
set_option maxRecDepth 100000 in
theorem c_X8_fault_21 (l : Launch) (dC : Nat → ClassId) (dI : Nat → Nat → Nat) (cB cI cJ cZ cP cQ : ClassId) (ad : Nat → Nat) (sz : Nat) (p1 : Int32) : Met l yX8_fault wsX8_fault ({ frames := 0, cells := 0, slots := 0, locals := 0 } : Room) (zPc [.ref (ad 0), .int p1] (dC, dI) (zT cB cI cJ cZ cP cQ) [(ad 0, .inr (8, xf0 ad)), (ad 1, .inr (7, xf1 ad))] sz [] []) (va_Qi (fun r _ => (fun r => (r = (-1) ∧ ¬ p1.toInt = 0 ∧ ¬ p1.toInt = 1) ∨ (r = (-1) ∧ ¬ p1.toInt = 0 ∧ p1.toInt = 1) ∨ (r = 0 ∧ p1.toInt = 0)) r) (zB (dC, dI) (zT cB cI cJ cZ cP cQ) (fun _ : Unit => []) [(ad 0, .inr (8, xf0 ad)), (ad 1, .inr (7, xf1 ad))] sz) (va_A [(ad 0, .inr (8, xf0 ad)), (ad 1, .inr (7, xf1 ad))] sz)) 0 0 (va_A [(ad 0, .inr (8, xf0 ad)), (ad 1, .inr (7, xf1 ad))] sz) := by
  refine z_enter (cc := cX8_fault) (maxL := 2) (ret := (some .int)) (by decide) rfl (Nat.le_of_ble_eq_true rfl) ?_
  intro p e s m below meth c A ls Q H locs hx hb hr hml hown hts hlocks hin hK hP hD hA hX hS hAe hQ hl
  have hown : s.vm.findClass RX8 = some m.cls := hown
  have hi7 : ∀ w ∈ wsX70, w ∈ wsX8_fault := fun w h => List.mem_cons_of_mem _ (List.mem_append_right _ h)
  have hi8 : ∀ w ∈ wsX80, w ∈ wsX8_fault := fun w h => List.mem_cons_of_mem _ (List.mem_append_left _ (List.mem_append_right _ h))
  have hk0 := hts (.fieldLink RX8 10 "MonthPush" "tape" "LMonthPush$Tape;") (by decide +kernel)
  have hk1 := hts (.fieldLink RX8 88 "MonthPush$Tape" "place" "I") (by decide +kernel)
  have hk2 := hts (.fieldLink RX8 82 "MonthPush$Tape" "fault" "I") (by decide +kernel)
  have hl : lv_has ls 2 [(0, .ref (ad 0)), (1, .int p1)] := hl
  refine lv_iload_n hx hb dX8_fault_0 rfl (lv_at hl 1 rfl) ?_
  refine lv_if_ne (tgt := 12) hx hb dX8_fault_1 (by decide) (fun c_1 => ?_) (fun c_1 => ?_)
  · have f2 : ¬ p1.toInt = 0 := z_ne rfl (by decide) c_1
    refine lv_iload_n hx hb dX8_fault_12 rfl (lv_at hl 1 rfl) ?_
    refine lv_iconst (v := 1) hx hb dX8_fault_13 (by decide) ?_
    refine lv_icmp_ne (tgt := 27) hx hb dX8_fault_14 (by decide) (fun c_3 => ?_) (fun c_3 => ?_)
    · have f4 : ¬ p1.toInt = 1 := z_ne rfl (by decide) c_3
      refine lv_iconst (v := (-1)) hx hb dX8_fault_27 (by decide) ?_
      have hP9 := hP.sub (ws' := []) [] rfl
      have hD9 := hD.sub (ws' := []) [] (by decide) rfl
      exact z_iret () hx hb hr hlocks hK hP9 hD9 hS hAe hQ rfl (Or.inl (⟨rfl, f2, f4⟩)) dX8_fault_28
    · have f4 : p1.toInt = 1 := z_eq rfl (by decide) c_3
      refine lv_aload_n hx hb dX8_fault_17 rfl (lv_at hl 0 rfl) ?_
      refine va_get (D := (dC, dI)) (ci := 8) (v := .ref (ad 1)) (C := RX8) (T := TX8) (N := 10) hx hb hts hi8 hown hK hP 0 rfl rfl 0 (by decide) hk0 (fun _ h9 => h9) rfl dX8_fault_18 ?_
      refine va_get (D := (dC, dI)) (ci := 7) (v := .int (-1)) (C := RX7) (T := TX7) (N := 8) hx hb hts hi7 hown hK hP 1 rfl rfl 3 (by decide) hk1 (fun _ h9 => h9) rfl dX8_fault_21 ?_
      refine lv_goto (tgt := 28) hx hb dX8_fault_24 (by decide) ?_
      have hP9 := hP.sub (ws' := []) [] rfl
      have hD9 := hD.sub (ws' := []) [] (by decide) rfl
      exact z_iret () hx hb hr hlocks hK hP9 hD9 hS hAe hQ rfl (Or.inr (Or.inl ⟨rfl, f2, f4⟩)) dX8_fault_28
  · have f2 : p1.toInt = 0 := z_eq rfl (by decide) c_1
    refine lv_aload_n hx hb dX8_fault_4 rfl (lv_at hl 0 rfl) ?_
    refine va_get (D := (dC, dI)) (ci := 8) (v := .ref (ad 1)) (C := RX8) (T := TX8) (N := 10) hx hb hts hi8 hown hK hP 0 rfl rfl 0 (by decide) hk0 (fun _ h9 => h9) rfl dX8_fault_5 ?_
    refine va_get (D := (dC, dI)) (ci := 7) (v := .int 0) (C := RX7) (T := TX7) (N := 8) hx hb hts hi7 hown hK hP 1 rfl rfl 2 (by decide) hk2 (fun _ h9 => h9) rfl dX8_fault_8 ?_
    have hP9 := hP.sub (ws' := []) [] rfl
    have hD9 := hD.sub (ws' := []) [] (by decide) rfl
    exact z_iret () hx hb hr hlocks hK hP9 hD9 hS hAe hQ rfl (Or.inr (Or.inr ⟨rfl, f2⟩)) dX8_fault_11
set_option maxHeartbeats 4000000 in
set_option maxRecDepth 100000 in
theorem c_X3_hasState_23 (l : Launch) (dC : Nat → ClassId) (dI : Nat → Nat → Nat) (cB cI cJ cZ cP cQ : ClassId) (ad : Nat → Nat) (sz : Nat) (p1 : Int32) : Met l yX3_hasState wsX3_hasState ({ frames := 0, cells := 0, slots := 0, locals := 0 } : Room) (zPc [.ref (ad 3), .int p1] (dC, dI) (zT cB cI cJ cZ cP cQ) [(ad 3, .inr (3, xf3 ad))] sz [] []) (va_Qi (fun r _ => (fun r => (r = 0 ∧ p1.toInt < 0) ∨ (r = 0 ∧ 0 ≤ p1.toInt)) r) (zB (dC, dI) (zT cB cI cJ cZ cP cQ) (fun _ : Unit => [(ad 3, .inr (3, xf3 ad))]) [(ad 3, .inr (3, xf3 ad))] sz) (va_A [(ad 3, .inr (3, xf3 ad))] sz)) 0 0 (va_A [(ad 3, .inr (3, xf3 ad))] sz) := by
  refine z_enter (cc := cX3_hasState) (maxL := 2) (ret := (some .boolean)) (by decide) rfl (Nat.le_of_ble_eq_true rfl) ?_
  intro p e s m below meth c A ls Q H locs hx hb hr hml hown hts hlocks hin hK hP hD hA hX hS hAe hQ hl
  have hown : s.vm.findClass RX3 = some m.cls := hown
  have hi3 : ∀ w ∈ wsX30, w ∈ wsX3_hasState := fun w h => List.mem_cons_of_mem _ (List.mem_append_right _ h)
  have hk0 := hts (.fieldLink RX3 49 "MonthPush$Land" "laws" "I") (by decide +kernel)
  have hl : lv_has ls 2 [(0, .ref (ad 3)), (1, .int p1)] := hl
  refine lv_iload_n hx hb dX3_hasState_0 rfl (lv_at hl 1 rfl) ?_
  refine lv_if_lt (tgt := 16) hx hb dX3_hasState_1 (by decide) (fun c_1 => ?_) (fun c_1 => ?_)
  · have f2 : p1.toInt < 0 := z_lt rfl (by decide) c_1
    refine lv_iconst (v := 0) hx hb dX3_hasState_16 (by decide) ?_
    exact z_zret () hx hb hr hlocks hK hP hD hS hAe hQ rfl (Or.inl (⟨rfl, f2⟩)) (by decide) dX3_hasState_17
  · have f2 : 0 ≤ p1.toInt := z_nlt rfl (by decide) c_1
    refine lv_iload_n hx hb dX3_hasState_4 rfl (lv_at hl 1 rfl) ?_
    refine lv_aload_n hx hb dX3_hasState_5 rfl (lv_at hl 0 rfl) ?_
    refine va_get (D := (dC, dI)) (ci := 3) (v := .int 0) (C := RX3) (T := TX3) (N := 16) hx hb hts hi3 hown hK hP 0 rfl rfl 1 (by decide) hk0 (fun _ h9 => h9) rfl dX3_hasState_6 ?_
    refine lv_icmp_ge (tgt := 16) hx hb dX3_hasState_9 (by decide) (fun _ => ?_) (fun c => absurd (show p1.toInt < 0 from z_nle (by decide) rfl c) (by omega))
    refine lv_iconst (v := 0) hx hb dX3_hasState_16 (by decide) ?_
    exact z_zret () hx hb hr hlocks hK hP hD hS hAe hQ rfl (Or.inr ⟨rfl, f2⟩) (by decide) dX3_hasState_17
set_option maxHeartbeats 4000000 in
set_option maxRecDepth 100000 in
theorem c_X8_forced_23 (l : Launch) (dC : Nat → ClassId) (dI : Nat → Nat → Nat) (cB cI cJ cZ cP cQ : ClassId) (ad : Nat → Nat) (sz : Nat) (p1 : Int32) (p2 : Int32) : Met l yX8_forced wsX8_forced ({ frames := 1, cells := 0, slots := 0, locals := 21 } : Room) (zPc [.ref (ad 0), .int p1, .int p2] (dC, dI) (zT cB cI cJ cZ cP cQ) [(ad 0, .inr (8, xf0 ad)), (ad 3, .inr (3, xf3 ad))] sz [] []) (va_Qi (fun r _ => (fun r => (r = (-2) ∧ p1.toInt < 0) ∨ (r = (-2) ∧ 0 ≤ p1.toInt)) r) (zB (dC, dI) (zT cB cI cJ cZ cP cQ) (fun _ : Unit => []) [(ad 0, .inr (8, xf0 ad)), (ad 3, .inr (3, xf3 ad))] sz) (va_A [(ad 0, .inr (8, xf0 ad)), (ad 3, .inr (3, xf3 ad))] sz)) 0 0 (va_A [(ad 0, .inr (8, xf0 ad)), (ad 3, .inr (3, xf3 ad))] sz) := by
  refine z_enter (cc := cX8_forced) (maxL := 3) (ret := (some .int)) (by decide) rfl (Nat.le_of_ble_eq_true rfl) ?_
  intro p e s m below meth c A ls Q H locs hx hb hr hml hown hts hlocks hin hK hP hD hA hX hS hAe hQ hl
  have hown : s.vm.findClass RX8 = some m.cls := hown
  have hi8 : ∀ w ∈ wsX80, w ∈ wsX8_forced := fun w h => List.mem_cons_of_mem _ (List.mem_append_left _ (List.mem_append_right _ h))
  have hk0 := hts (.fieldLink RX8 19 "MonthPush" "now" "LMonthPush$Land;") (by decide +kernel)
  have hl : lv_has ls 3 [(0, .ref (ad 0)), (1, .int p1), (2, .int p2)] := hl
  refine lv_aload_n hx hb dX8_forced_0 rfl (lv_at hl 0 rfl) ?_
  refine va_get (D := (dC, dI)) (ci := 8) (v := .ref (ad 3)) (C := RX8) (T := TX8) (N := 10) hx hb hts hi8 hown hK hP 0 rfl rfl 1 (by decide) hk0 (fun _ h9 => h9) rfl dX8_forced_1 ?_
  refine lv_iload_n hx hb dX8_forced_4 rfl (lv_at hl 1 rfl) ?_
  refine z_fini (w' := fun (u1 : Unit) => [(ad 0, .inr (8, xf0 ad)), (ad 3, .inr (3, xf3 ad))]) (va_runV (As := [.int p1]) (rest := []) ⟨hx, hb, hml, hown, hts⟩ (c_X3_hasState_23 l dC dI cB cI cJ cZ cP cQ ad H.size p1) (cwV 1 hts gX8_forced_X3_hasState rfl rfl rfl (by decide +kernel) ⟨Nat.le_of_ble_eq_true rfl, Nat.le_of_ble_eq_true rfl⟩) (z_pV (ci := 3) hK hP hD zX_nil [1] (by decide) rfl rfl 1 rfl) rfl rfl hl.1 rfl (lv_room (Nat.le_of_ble_eq_true rfl)) dX8_forced_5 ⟨Nat.le_of_ble_eq_true rfl, Nat.le_of_ble_eq_true rfl⟩) hP hD hS hA [1] [0] [0, 1] rfl rfl (by decide) (by decide) (fun _ => rfl) (by decide) (fun r2 u1 H locs hp3 hP hD hS => ?_)
  have hP : va_P (dC, dI) vwCl [(ad 0, .inr (8, xf0 ad)), (ad 3, .inr (3, xf3 ad))] H := hP
  have hD : va_D A [(ad 0, .inr (8, xf0 ad)), (ad 3, .inr (3, xf3 ad))] := hD
  refine W.widen (k := 0) (n := 0) (by decide) (by decide) ?_
  rcases hp3 with ⟨rfl, f4⟩ | ⟨rfl, f5⟩
  · refine lv_if_eq (tgt := 18) hx hb dX8_forced_8 (by decide) (fun _ => ?_) (fun c => absurd (by decide) c)
    refine lv_bipush (v := (-2)) hx hb dX8_forced_18 (by decide) ?_
    have hP9 := hP.sub (ws' := []) [] rfl
    have hD9 := hD.sub (ws' := []) [] (by decide) rfl
    exact z_iret () hx hb hr hlocks hK hP9 hD9 hS hAe hQ rfl (Or.inl (⟨rfl, f4⟩)) dX8_forced_20
  · refine lv_if_eq (tgt := 18) hx hb dX8_forced_8 (by decide) (fun _ => ?_) (fun c => absurd (by decide) c)
    refine lv_bipush (v := (-2)) hx hb dX8_forced_18 (by decide) ?_
    have hP9 := hP.sub (ws' := []) [] rfl
    have hD9 := hD.sub (ws' := []) [] (by decide) rfl
    exact z_iret () hx hb hr hlocks hK hP9 hD9 hS hAe hQ rfl (Or.inr ⟨rfl, f5⟩) dX8_forced_20
set_option maxHeartbeats 4000000 in
set_option maxRecDepth 100000 in
theorem c_X8_old_24 (l : Launch) (dC : Nat → ClassId) (dI : Nat → Nat → Nat) (cB cI cJ cZ cP cQ : ClassId) (ad : Nat → Nat) (sz : Nat) (p1 : Int32) (p2 : Int32) : Met l yX8_old wsX8_old ({ frames := 1, cells := 0, slots := 0, locals := 21 } : Room) (zPc [.ref (ad 0), .int p1, .int p2] (dC, dI) (zT cB cI cJ cZ cP cQ) [(ad 0, .inr (8, xf0 ad)), (ad 3, .inr (3, xf3 ad))] sz [] []) (va_Qi (fun r _ => (fun r => (r = (-2) ∧ p1.toInt < 0) ∨ (r = (-2) ∧ 0 ≤ p1.toInt)) r) (zB (dC, dI) (zT cB cI cJ cZ cP cQ) (fun _ : Unit => []) [(ad 0, .inr (8, xf0 ad)), (ad 3, .inr (3, xf3 ad))] sz) (va_A [(ad 0, .inr (8, xf0 ad)), (ad 3, .inr (3, xf3 ad))] sz)) 0 0 (va_A [(ad 0, .inr (8, xf0 ad)), (ad 3, .inr (3, xf3 ad))] sz) := by
  refine z_enter (cc := cX8_old) (maxL := 3) (ret := (some .int)) (by decide) rfl (Nat.le_of_ble_eq_true rfl) ?_
  intro p e s m below meth c A ls Q H locs hx hb hr hml hown hts hlocks hin hK hP hD hA hX hS hAe hQ hl
  have hown : s.vm.findClass RX8 = some m.cls := hown
  have hi8 : ∀ w ∈ wsX80, w ∈ wsX8_old := fun w h => List.mem_cons_of_mem _ (List.mem_append_left _ (List.mem_append_right _ h))
  have hk0 := hts (.fieldLink RX8 19 "MonthPush" "now" "LMonthPush$Land;") (by decide +kernel)
  have hl : lv_has ls 3 [(0, .ref (ad 0)), (1, .int p1), (2, .int p2)] := hl
  refine lv_aload_n hx hb dX8_old_0 rfl (lv_at hl 0 rfl) ?_
  refine va_get (D := (dC, dI)) (ci := 8) (v := .ref (ad 3)) (C := RX8) (T := TX8) (N := 10) hx hb hts hi8 hown hK hP 0 rfl rfl 1 (by decide) hk0 (fun _ h9 => h9) rfl dX8_old_1 ?_
  refine lv_iload_n hx hb dX8_old_4 rfl (lv_at hl 1 rfl) ?_
  refine z_fini (w' := fun (u1 : Unit) => [(ad 0, .inr (8, xf0 ad)), (ad 3, .inr (3, xf3 ad))]) (va_runV (As := [.int p1]) (rest := []) ⟨hx, hb, hml, hown, hts⟩ (c_X3_hasState_23 l dC dI cB cI cJ cZ cP cQ ad H.size p1) (cwV 1 hts gX8_old_X3_hasState rfl rfl rfl (by decide +kernel) ⟨Nat.le_of_ble_eq_true rfl, Nat.le_of_ble_eq_true rfl⟩) (z_pV (ci := 3) hK hP hD zX_nil [1] (by decide) rfl rfl 1 rfl) rfl rfl hl.1 rfl (lv_room (Nat.le_of_ble_eq_true rfl)) dX8_old_5 ⟨Nat.le_of_ble_eq_true rfl, Nat.le_of_ble_eq_true rfl⟩) hP hD hS hA [1] [0] [0, 1] rfl rfl (by decide) (by decide) (fun _ => rfl) (by decide) (fun r2 u1 H locs hp3 hP hD hS => ?_)
  have hP : va_P (dC, dI) vwCl [(ad 0, .inr (8, xf0 ad)), (ad 3, .inr (3, xf3 ad))] H := hP
  have hD : va_D A [(ad 0, .inr (8, xf0 ad)), (ad 3, .inr (3, xf3 ad))] := hD
  refine W.widen (k := 0) (n := 0) (by decide) (by decide) ?_
  rcases hp3 with ⟨rfl, f4⟩ | ⟨rfl, f5⟩
  · refine lv_if_eq (tgt := 18) hx hb dX8_old_8 (by decide) (fun _ => ?_) (fun c => absurd (by decide) c)
    refine lv_bipush (v := (-2)) hx hb dX8_old_18 (by decide) ?_
    have hP9 := hP.sub (ws' := []) [] rfl
    have hD9 := hD.sub (ws' := []) [] (by decide) rfl
    exact z_iret () hx hb hr hlocks hK hP9 hD9 hS hAe hQ rfl (Or.inl (⟨rfl, f4⟩)) dX8_old_20
  · refine lv_if_eq (tgt := 18) hx hb dX8_old_8 (by decide) (fun _ => ?_) (fun c => absurd (by decide) c)
    refine lv_bipush (v := (-2)) hx hb dX8_old_18 (by decide) ?_
    have hP9 := hP.sub (ws' := []) [] rfl
    have hD9 := hD.sub (ws' := []) [] (by decide) rfl
    exact z_iret () hx hb hr hlocks hK hP9 hD9 hS hAe hQ rfl (Or.inr ⟨rfl, f5⟩) dX8_old_20
set_option maxHeartbeats 4000000 in
set_option maxRecDepth 100000 in
theorem c_X8_within_26 (l : Launch) (dC : Nat → ClassId) (dI : Nat → Nat → Nat) (cB cI cJ cZ cP cQ : ClassId) (sz : Nat) (p0 : Int32) : Met l yX8_within wsX8_within ({ frames := 0, cells := 0, slots := 0, locals := 0 } : Room) (zPc [.int p0, .int 0, .int 300] (dC, dI) (zT cB cI cJ cZ cP cQ) [] sz [] []) (va_Qi (fun r _ => (fun r => (r = 0 ∧ p0.toInt < 0) ∨ (r = 0 ∧ 0 ≤ p0.toInt ∧ 300 < p0.toInt) ∨ (r = 1 ∧ 0 ≤ p0.toInt ∧ p0.toInt ≤ 300)) r) (zB (dC, dI) (zT cB cI cJ cZ cP cQ) (fun _ : Unit => []) [] sz) (va_A [] sz)) 0 0 (va_A [] sz) := by
  refine z_enter (cc := cX8_within) (maxL := 3) (ret := (some .boolean)) (by decide) rfl (Nat.le_of_ble_eq_true rfl) ?_
  intro p e s m below meth c A ls Q H locs hx hb hr hml hown hts hlocks hin hK hP hD hA hX hS hAe hQ hl
  have hown : s.vm.findClass RX8 = some m.cls := hown
  have hl : lv_has ls 3 [(0, .int p0), (1, .int 0), (2, .int 300)] := hl
  refine lv_iload_n hx hb dX8_within_0 rfl (lv_at hl 0 rfl) ?_
  refine lv_iload_n hx hb dX8_within_1 rfl (lv_at hl 1 rfl) ?_
  refine lv_icmp_lt (tgt := 14) hx hb dX8_within_2 (by decide) (fun c_1 => ?_) (fun c_1 => ?_)
  · have f2 : p0.toInt < 0 := z_lt rfl (by decide) c_1
    refine lv_iconst (v := 0) hx hb dX8_within_14 (by decide) ?_
    exact z_zret () hx hb hr hlocks hK hP hD hS hAe hQ rfl (Or.inl (⟨rfl, f2⟩)) (by decide) dX8_within_15
  · have f2 : 0 ≤ p0.toInt := z_nlt rfl (by decide) c_1
    refine lv_iload_n hx hb dX8_within_5 rfl (lv_at hl 0 rfl) ?_
    refine lv_iload_n hx hb dX8_within_6 rfl (lv_at hl 2 rfl) ?_
    refine lv_icmp_gt (tgt := 14) hx hb dX8_within_7 (by decide) (fun c_3 => ?_) (fun c_3 => ?_)
    · have f4 : 300 < p0.toInt := z_lt (by decide) rfl c_3
      refine lv_iconst (v := 0) hx hb dX8_within_14 (by decide) ?_
      exact z_zret () hx hb hr hlocks hK hP hD hS hAe hQ rfl (Or.inr (Or.inl ⟨rfl, f2, f4⟩)) (by decide) dX8_within_15
    · have f4 : p0.toInt ≤ 300 := z_nlt (by decide) rfl c_3
      refine lv_iconst (v := 1) hx hb dX8_within_10 (by decide) ?_
      refine lv_goto (tgt := 15) hx hb dX8_within_11 (by decide) ?_
      exact z_zret () hx hb hr hlocks hK hP hD hS hAe hQ rfl (Or.inr (Or.inr ⟨rfl, f2, f4⟩)) (by decide) dX8_within_15
set_option maxHeartbeats 4000000 in
set_option maxRecDepth 100000 in
theorem c_X8_within_27 (l : Launch) (dC : Nat → ClassId) (dI : Nat → Nat → Nat) (cB cI cJ cZ cP cQ : ClassId) (sz : Nat) (p0 : Int32) : Met l yX8_within wsX8_within ({ frames := 0, cells := 0, slots := 0, locals := 0 } : Room) (zPc [.int p0, .int 0, .int 999] (dC, dI) (zT cB cI cJ cZ cP cQ) [] sz [] []) (va_Qi (fun r _ => (fun r => (r = 0 ∧ p0.toInt < 0) ∨ (r = 0 ∧ 0 ≤ p0.toInt ∧ 999 < p0.toInt) ∨ (r = 1 ∧ 0 ≤ p0.toInt ∧ p0.toInt ≤ 999)) r) (zB (dC, dI) (zT cB cI cJ cZ cP cQ) (fun _ : Unit => []) [] sz) (va_A [] sz)) 0 0 (va_A [] sz) := by
  refine z_enter (cc := cX8_within) (maxL := 3) (ret := (some .boolean)) (by decide) rfl (Nat.le_of_ble_eq_true rfl) ?_
  intro p e s m below meth c A ls Q H locs hx hb hr hml hown hts hlocks hin hK hP hD hA hX hS hAe hQ hl
  have hown : s.vm.findClass RX8 = some m.cls := hown
  have hl : lv_has ls 3 [(0, .int p0), (1, .int 0), (2, .int 999)] := hl
  refine lv_iload_n hx hb dX8_within_0 rfl (lv_at hl 0 rfl) ?_
  refine lv_iload_n hx hb dX8_within_1 rfl (lv_at hl 1 rfl) ?_
  refine lv_icmp_lt (tgt := 14) hx hb dX8_within_2 (by decide) (fun c_1 => ?_) (fun c_1 => ?_)
  · have f2 : p0.toInt < 0 := z_lt rfl (by decide) c_1
    refine lv_iconst (v := 0) hx hb dX8_within_14 (by decide) ?_
    exact z_zret () hx hb hr hlocks hK hP hD hS hAe hQ rfl (Or.inl (⟨rfl, f2⟩)) (by decide) dX8_within_15
  · have f2 : 0 ≤ p0.toInt := z_nlt rfl (by decide) c_1
    refine lv_iload_n hx hb dX8_within_5 rfl (lv_at hl 0 rfl) ?_
    refine lv_iload_n hx hb dX8_within_6 rfl (lv_at hl 2 rfl) ?_
    refine lv_icmp_gt (tgt := 14) hx hb dX8_within_7 (by decide) (fun c_3 => ?_) (fun c_3 => ?_)
    · have f4 : 999 < p0.toInt := z_lt (by decide) rfl c_3
      refine lv_iconst (v := 0) hx hb dX8_within_14 (by decide) ?_
      exact z_zret () hx hb hr hlocks hK hP hD hS hAe hQ rfl (Or.inr (Or.inl ⟨rfl, f2, f4⟩)) (by decide) dX8_within_15
    · have f4 : p0.toInt ≤ 999 := z_nlt (by decide) rfl c_3
      refine lv_iconst (v := 1) hx hb dX8_within_10 (by decide) ?_
      refine lv_goto (tgt := 15) hx hb dX8_within_11 (by decide) ?_
      exact z_zret () hx hb hr hlocks hK hP hD hS hAe hQ rfl (Or.inr (Or.inr ⟨rfl, f2, f4⟩)) (by decide) dX8_within_15
set_option maxHeartbeats 4000000 in
set_option maxRecDepth 100000 in
theorem c_X8_within_29 (l : Launch) (dC : Nat → ClassId) (dI : Nat → Nat → Nat) (cB cI cJ cZ cP cQ : ClassId) (sz : Nat) (p0 : Int32) : Met l yX8_within wsX8_within ({ frames := 0, cells := 0, slots := 0, locals := 0 } : Room) (zPc [.int p0, .int 1, .int 12] (dC, dI) (zT cB cI cJ cZ cP cQ) [] sz [] []) (va_Qi (fun r _ => (fun r => (r = 0 ∧ p0.toInt < 1) ∨ (r = 0 ∧ 1 ≤ p0.toInt ∧ 12 < p0.toInt) ∨ (r = 1 ∧ 1 ≤ p0.toInt ∧ p0.toInt ≤ 12)) r) (zB (dC, dI) (zT cB cI cJ cZ cP cQ) (fun _ : Unit => []) [] sz) (va_A [] sz)) 0 0 (va_A [] sz) := by
  refine z_enter (cc := cX8_within) (maxL := 3) (ret := (some .boolean)) (by decide) rfl (Nat.le_of_ble_eq_true rfl) ?_
  intro p e s m below meth c A ls Q H locs hx hb hr hml hown hts hlocks hin hK hP hD hA hX hS hAe hQ hl
  have hown : s.vm.findClass RX8 = some m.cls := hown
  have hl : lv_has ls 3 [(0, .int p0), (1, .int 1), (2, .int 12)] := hl
  refine lv_iload_n hx hb dX8_within_0 rfl (lv_at hl 0 rfl) ?_
  refine lv_iload_n hx hb dX8_within_1 rfl (lv_at hl 1 rfl) ?_
  refine lv_icmp_lt (tgt := 14) hx hb dX8_within_2 (by decide) (fun c_1 => ?_) (fun c_1 => ?_)
  · have f2 : p0.toInt < 1 := z_lt rfl (by decide) c_1
    refine lv_iconst (v := 0) hx hb dX8_within_14 (by decide) ?_
    exact z_zret () hx hb hr hlocks hK hP hD hS hAe hQ rfl (Or.inl (⟨rfl, f2⟩)) (by decide) dX8_within_15
  · have f2 : 1 ≤ p0.toInt := z_nlt rfl (by decide) c_1
    refine lv_iload_n hx hb dX8_within_5 rfl (lv_at hl 0 rfl) ?_
    refine lv_iload_n hx hb dX8_within_6 rfl (lv_at hl 2 rfl) ?_
    refine lv_icmp_gt (tgt := 14) hx hb dX8_within_7 (by decide) (fun c_3 => ?_) (fun c_3 => ?_)
    · have f4 : 12 < p0.toInt := z_lt (by decide) rfl c_3
      refine lv_iconst (v := 0) hx hb dX8_within_14 (by decide) ?_
      exact z_zret () hx hb hr hlocks hK hP hD hS hAe hQ rfl (Or.inr (Or.inl ⟨rfl, f2, f4⟩)) (by decide) dX8_within_15
    · have f4 : p0.toInt ≤ 12 := z_nlt (by decide) rfl c_3
      refine lv_iconst (v := 1) hx hb dX8_within_10 (by decide) ?_
      refine lv_goto (tgt := 15) hx hb dX8_within_11 (by decide) ?_
      exact z_zret () hx hb hr hlocks hK hP hD hS hAe hQ rfl (Or.inr (Or.inr ⟨rfl, f2, f4⟩)) (by decide) dX8_within_15
set_option maxHeartbeats 4000000 in
set_option maxRecDepth 100000 in
theorem c_X8_isMonth_29 (l : Launch) (dC : Nat → ClassId) (dI : Nat → Nat → Nat) (cB cI cJ cZ cP cQ : ClassId) (sz : Nat) (p0 : Int32) : Met l yX8_isMonth wsX8_isMonth ({ frames := 1, cells := 0, slots := 0, locals := 22 } : Room) (zPc [.int p0] (dC, dI) (zT cB cI cJ cZ cP cQ) [] sz [] []) (va_Qi (fun r _ => (fun r => (r = 0 ∧ p0.toInt < 1) ∨ (r = 0 ∧ 1 ≤ p0.toInt ∧ 12 < p0.toInt) ∨ (r = 1 ∧ 1 ≤ p0.toInt ∧ p0.toInt ≤ 12)) r) (zB (dC, dI) (zT cB cI cJ cZ cP cQ) (fun _ : Unit => []) [] sz) (va_A [] sz)) 0 0 (va_A [] sz) := by
  refine z_enter (cc := cX8_isMonth) (maxL := 1) (ret := (some .boolean)) (by decide) rfl (Nat.le_of_ble_eq_true rfl) ?_
  intro p e s m below meth c A ls Q H locs hx hb hr hml hown hts hlocks hin hK hP hD hA hX hS hAe hQ hl
  have hown : s.vm.findClass RX8 = some m.cls := hown
  have hl : lv_has ls 1 [(0, .int p0)] := hl
  refine lv_iload_n hx hb dX8_isMonth_0 rfl (lv_at hl 0 rfl) ?_
  refine lv_iconst (v := 1) hx hb dX8_isMonth_1 (by decide) ?_
  refine lv_bipush (v := 12) hx hb dX8_isMonth_2 (by decide) ?_
  refine z_fini (w' := fun (u1 : Unit) => []) (va_runS (As := [.int p0, .int 1, .int 12]) (rest := []) ⟨hx, hb, hml, hown, hts⟩ (c_X8_within_29 l dC dI cB cI cJ cZ cP cQ H.size p0) (va_cwS 3 hts gX8_isMonth_X8_within rfl rfl rfl (by decide +kernel) ⟨Nat.le_of_ble_eq_true rfl, Nat.le_of_ble_eq_true rfl⟩) (z_pS hK hP hD zX_nil [] (by decide) rfl) rfl rfl hl.1 rfl (lv_room (Nat.le_of_ble_eq_true rfl)) dX8_isMonth_4 ⟨Nat.le_of_ble_eq_true rfl, Nat.le_of_ble_eq_true rfl⟩) hP hD hS hA [] [] [] rfl rfl (by decide) (by decide) (fun _ => rfl) (by decide) (fun r2 u1 H locs hp3 hP hD hS => ?_)
  have hP : va_P (dC, dI) vwCl [] H := hP
  have hD : va_D A [] := hD
  refine W.widen (k := 0) (n := 0) (by decide) (by decide) ?_
  rcases hp3 with ⟨rfl, f4⟩ | ⟨rfl, f5, f6⟩ | ⟨rfl, f7, f8⟩
  · exact z_zret () hx hb hr hlocks hK hP hD hS hAe hQ rfl (Or.inl (⟨rfl, f4⟩)) (by decide) dX8_isMonth_7
  · exact z_zret () hx hb hr hlocks hK hP hD hS hAe hQ rfl (Or.inr (Or.inl ⟨rfl, f5, f6⟩)) (by decide) dX8_isMonth_7
  · exact z_zret () hx hb hr hlocks hK hP hD hS hAe hQ rfl (Or.inr (Or.inr ⟨rfl, f7, f8⟩)) (by decide) dX8_isMonth_7
set_option maxHeartbeats 4000000 in
set_option maxRecDepth 100000 in
theorem c_X8_wage_29 (l : Launch) (dC : Nat → ClassId) (dI : Nat → Nat → Nat) (cB cI cJ cZ cP cQ : ClassId) (ad : Nat → Nat) (sz : Nat) (p1 : Int32) (p2 : Int32) (p3 : Int32) (p4 : Int32) : Met l yX8_wage wsX8_wage ({ frames := 2, cells := 0, slots := 0, locals := 42 } : Room) (zPc [.ref (ad 0), .int p1, .int p2, .int p3, .int p4] (dC, dI) (zT cB cI cJ cZ cP cQ) [(ad 0, .inr (8, xf0 ad)), (ad 3, .inr (3, xf3 ad))] sz [] []) (va_Qi (fun r _ => (fun r => (r = (-2) ∧ p1.toInt < 0) ∨ (r = (-2) ∧ 0 ≤ p1.toInt ∧ 300 < p1.toInt) ∨ (r = (-2) ∧ 0 ≤ p1.toInt ∧ p1.toInt ≤ 300 ∧ p2.toInt < 0) ∨ (r = (-2) ∧ 0 ≤ p1.toInt ∧ p1.toInt ≤ 300 ∧ 0 ≤ p2.toInt ∧ 999 < p2.toInt) ∨ (r = (-2) ∧ 0 ≤ p1.toInt ∧ p1.toInt ≤ 300 ∧ 0 ≤ p2.toInt ∧ p2.toInt ≤ 999 ∧ p3.toInt < 1) ∨ (r = (-2) ∧ 0 ≤ p1.toInt ∧ p1.toInt ≤ 300 ∧ 0 ≤ p2.toInt ∧ p2.toInt ≤ 999 ∧ 1 ≤ p3.toInt ∧ 12 < p3.toInt) ∨ (r = (-2) ∧ 0 ≤ p1.toInt ∧ p1.toInt ≤ 300 ∧ 0 ≤ p2.toInt ∧ p2.toInt ≤ 999 ∧ 1 ≤ p3.toInt ∧ p3.toInt ≤ 12 ∧ p4.toInt < 0) ∨ (r = (-2) ∧ 0 ≤ p1.toInt ∧ p1.toInt ≤ 300 ∧ 0 ≤ p2.toInt ∧ p2.toInt ≤ 999 ∧ 1 ≤ p3.toInt ∧ p3.toInt ≤ 12 ∧ 0 ≤ p4.toInt)) r) (zB (dC, dI) (zT cB cI cJ cZ cP cQ) (fun _ : Unit => []) [(ad 0, .inr (8, xf0 ad)), (ad 3, .inr (3, xf3 ad))] sz) (va_A [(ad 0, .inr (8, xf0 ad)), (ad 3, .inr (3, xf3 ad))] sz)) 0 0 (va_A [(ad 0, .inr (8, xf0 ad)), (ad 3, .inr (3, xf3 ad))] sz) := by
  refine z_enter (cc := cX8_wage) (maxL := 5) (ret := (some .int)) (by decide) rfl (Nat.le_of_ble_eq_true rfl) ?_
  intro p e s m below meth c A ls Q H locs hx hb hr hml hown hts hlocks hin hK hP hD hA hX hS hAe hQ hl
  have hown : s.vm.findClass RX8 = some m.cls := hown
  have hi8 : ∀ w ∈ wsX80, w ∈ wsX8_wage := fun w h => List.mem_cons_of_mem _ (List.mem_append_left _ (List.mem_append_right _ h))
  have hk0 := hts (.fieldLink RX8 19 "MonthPush" "now" "LMonthPush$Land;") (by decide +kernel)
  have hl : lv_has ls 5 [(0, .ref (ad 0)), (1, .int p1), (2, .int p2), (3, .int p3), (4, .int p4)] := hl
  refine lv_iload_n hx hb dX8_wage_0 rfl (lv_at hl 1 rfl) ?_
  refine lv_iconst (v := 0) hx hb dX8_wage_1 (by decide) ?_
  refine lv_sipush (v := 300) hx hb dX8_wage_2 (by decide) ?_
  refine z_fini (w' := fun (u1 : Unit) => [(ad 0, .inr (8, xf0 ad)), (ad 3, .inr (3, xf3 ad))]) (va_runS (As := [.int p1, .int 0, .int 300]) (rest := []) ⟨hx, hb, hml, hown, hts⟩ (c_X8_within_26 l dC dI cB cI cJ cZ cP cQ H.size p1) (va_cwS 3 hts gX8_wage_X8_within rfl rfl rfl (by decide +kernel) ⟨Nat.le_of_ble_eq_true rfl, Nat.le_of_ble_eq_true rfl⟩) (z_pS hK hP hD zX_nil [] (by decide) rfl) rfl rfl hl.1 rfl (lv_room (Nat.le_of_ble_eq_true rfl)) dX8_wage_5 ⟨Nat.le_of_ble_eq_true rfl, Nat.le_of_ble_eq_true rfl⟩) hP hD hS hA [] [0, 1] [0, 1] rfl rfl (by decide) (by decide) (fun _ => rfl) (by decide) (fun r2 u1 H locs hp3 hP hD hS => ?_)
  have hP : va_P (dC, dI) vwCl [(ad 0, .inr (8, xf0 ad)), (ad 3, .inr (3, xf3 ad))] H := hP
  have hD : va_D A [(ad 0, .inr (8, xf0 ad)), (ad 3, .inr (3, xf3 ad))] := hD
  refine W.widen (k := 0) (n := 0) (by decide) (by decide) ?_
  rcases hp3 with ⟨rfl, f4⟩ | ⟨rfl, f5, f6⟩ | ⟨rfl, f7, f8⟩
  · refine lv_if_eq (tgt := 22) hx hb dX8_wage_8 (by decide) (fun _ => ?_) (fun c => absurd (by decide) c)
    refine lv_bipush (v := (-2)) hx hb dX8_wage_22 (by decide) ?_
    have hP9 := hP.sub (ws' := []) [] rfl
    have hD9 := hD.sub (ws' := []) [] (by decide) rfl
    exact z_iret () hx hb hr hlocks hK hP9 hD9 hS hAe hQ rfl (Or.inl (⟨rfl, f4⟩)) dX8_wage_24
  · refine lv_if_eq (tgt := 22) hx hb dX8_wage_8 (by decide) (fun _ => ?_) (fun c => absurd (by decide) c)
    refine lv_bipush (v := (-2)) hx hb dX8_wage_22 (by decide) ?_
    have hP9 := hP.sub (ws' := []) [] rfl
    have hD9 := hD.sub (ws' := []) [] (by decide) rfl
    exact z_iret () hx hb hr hlocks hK hP9 hD9 hS hAe hQ rfl (Or.inr (Or.inl ⟨rfl, f5, f6⟩)) dX8_wage_24
  · refine lv_if_eq (tgt := 22) hx hb dX8_wage_8 (by decide) (fun c => absurd c (by decide)) (fun _ => ?_)
    refine lv_iload_n hx hb dX8_wage_11 rfl (lv_at hl 2 rfl) ?_
    refine lv_iconst (v := 0) hx hb dX8_wage_12 (by decide) ?_
    refine lv_sipush (v := 999) hx hb dX8_wage_13 (by decide) ?_
    refine z_fini (w' := fun (u9 : Unit) => [(ad 0, .inr (8, xf0 ad)), (ad 3, .inr (3, xf3 ad))]) (va_runS (As := [.int p2, .int 0, .int 999]) (rest := []) ⟨hx, hb, hml, hown, hts⟩ (c_X8_within_27 l dC dI cB cI cJ cZ cP cQ H.size p2) (va_cwS 3 hts gX8_wage_X8_within rfl rfl rfl (by decide +kernel) ⟨Nat.le_of_ble_eq_true rfl, Nat.le_of_ble_eq_true rfl⟩) (z_pS hK hP hD zX_nil [] (by decide) rfl) rfl rfl hl.1 rfl (lv_room (Nat.le_of_ble_eq_true rfl)) dX8_wage_16 ⟨Nat.le_of_ble_eq_true rfl, Nat.le_of_ble_eq_true rfl⟩) hP hD hS hA [] [0, 1] [0, 1] rfl rfl (by decide) (by decide) (fun _ => rfl) (by decide) (fun r10 u9 H locs hp11 hP hD hS => ?_)
    have hP : va_P (dC, dI) vwCl [(ad 0, .inr (8, xf0 ad)), (ad 3, .inr (3, xf3 ad))] H := hP
    have hD : va_D A [(ad 0, .inr (8, xf0 ad)), (ad 3, .inr (3, xf3 ad))] := hD
    refine W.widen (k := 0) (n := 0) (by decide) (by decide) ?_
    rcases hp11 with ⟨rfl, f12⟩ | ⟨rfl, f13, f14⟩ | ⟨rfl, f15, f16⟩
    · refine lv_if_ne (tgt := 25) hx hb dX8_wage_19 (by decide) (fun c => absurd (by decide) c) (fun _ => ?_)
      refine lv_bipush (v := (-2)) hx hb dX8_wage_22 (by decide) ?_
      have hP9 := hP.sub (ws' := []) [] rfl
      have hD9 := hD.sub (ws' := []) [] (by decide) rfl
      exact z_iret () hx hb hr hlocks hK hP9 hD9 hS hAe hQ rfl (Or.inr (Or.inr (Or.inl ⟨rfl, f7, f8, f12⟩))) dX8_wage_24
    · refine lv_if_ne (tgt := 25) hx hb dX8_wage_19 (by decide) (fun c => absurd (by decide) c) (fun _ => ?_)
      refine lv_bipush (v := (-2)) hx hb dX8_wage_22 (by decide) ?_
      have hP9 := hP.sub (ws' := []) [] rfl
      have hD9 := hD.sub (ws' := []) [] (by decide) rfl
      exact z_iret () hx hb hr hlocks hK hP9 hD9 hS hAe hQ rfl (Or.inr (Or.inr (Or.inr (Or.inl ⟨rfl, f7, f8, f13, f14⟩)))) dX8_wage_24
    · refine lv_if_ne (tgt := 25) hx hb dX8_wage_19 (by decide) (fun _ => ?_) (fun c => absurd c (by decide))
      refine lv_iload_n hx hb dX8_wage_25 rfl (lv_at hl 3 rfl) ?_
      refine z_fini (w' := fun (u17 : Unit) => [(ad 0, .inr (8, xf0 ad)), (ad 3, .inr (3, xf3 ad))]) (va_runS (As := [.int p3]) (rest := []) ⟨hx, hb, hml, hown, hts⟩ (c_X8_isMonth_29 l dC dI cB cI cJ cZ cP cQ H.size p3) (va_cwS 1 hts gX8_wage_X8_isMonth rfl rfl rfl (by decide +kernel) ⟨Nat.le_of_ble_eq_true rfl, Nat.le_of_ble_eq_true rfl⟩) (z_pS hK hP hD zX_nil [] (by decide) rfl) rfl rfl hl.1 rfl (lv_room (Nat.le_of_ble_eq_true rfl)) dX8_wage_26 ⟨Nat.le_of_ble_eq_true rfl, Nat.le_of_ble_eq_true rfl⟩) hP hD hS hA [] [0, 1] [0, 1] rfl rfl (by decide) (by decide) (fun _ => rfl) (by decide) (fun r18 u17 H locs hp19 hP hD hS => ?_)
      have hP : va_P (dC, dI) vwCl [(ad 0, .inr (8, xf0 ad)), (ad 3, .inr (3, xf3 ad))] H := hP
      have hD : va_D A [(ad 0, .inr (8, xf0 ad)), (ad 3, .inr (3, xf3 ad))] := hD
      refine W.widen (k := 0) (n := 0) (by decide) (by decide) ?_
      rcases hp19 with ⟨rfl, f20⟩ | ⟨rfl, f21, f22⟩ | ⟨rfl, f23, f24⟩
      · refine lv_if_eq (tgt := 44) hx hb dX8_wage_29 (by decide) (fun _ => ?_) (fun c => absurd (by decide) c)
        refine lv_bipush (v := (-2)) hx hb dX8_wage_44 (by decide) ?_
        have hP9 := hP.sub (ws' := []) [] rfl
        have hD9 := hD.sub (ws' := []) [] (by decide) rfl
        exact z_iret () hx hb hr hlocks hK hP9 hD9 hS hAe hQ rfl (Or.inr (Or.inr (Or.inr (Or.inr (Or.inl ⟨rfl, f7, f8, f15, f16, f20⟩))))) dX8_wage_46
      · refine lv_if_eq (tgt := 44) hx hb dX8_wage_29 (by decide) (fun _ => ?_) (fun c => absurd (by decide) c)
        refine lv_bipush (v := (-2)) hx hb dX8_wage_44 (by decide) ?_
        have hP9 := hP.sub (ws' := []) [] rfl
        have hD9 := hD.sub (ws' := []) [] (by decide) rfl
        exact z_iret () hx hb hr hlocks hK hP9 hD9 hS hAe hQ rfl (Or.inr (Or.inr (Or.inr (Or.inr (Or.inr (Or.inl ⟨rfl, f7, f8, f15, f16, f21, f22⟩)))))) dX8_wage_46
      · refine lv_if_eq (tgt := 44) hx hb dX8_wage_29 (by decide) (fun c => absurd c (by decide)) (fun _ => ?_)
        refine lv_aload_n hx hb dX8_wage_32 rfl (lv_at hl 0 rfl) ?_
        refine va_get (D := (dC, dI)) (ci := 8) (v := .ref (ad 3)) (C := RX8) (T := TX8) (N := 10) hx hb hts hi8 hown hK hP 0 rfl rfl 1 (by decide) hk0 (fun _ h9 => h9) rfl dX8_wage_33 ?_
        refine lv_iload hx hb dX8_wage_36 (lv_at hl 4 rfl) ?_
        refine z_fini (w' := fun (u25 : Unit) => [(ad 0, .inr (8, xf0 ad)), (ad 3, .inr (3, xf3 ad))]) (va_runV (As := [.int p4]) (rest := []) ⟨hx, hb, hml, hown, hts⟩ (c_X3_hasState_23 l dC dI cB cI cJ cZ cP cQ ad H.size p4) (cwV 1 hts gX8_wage_X3_hasState rfl rfl rfl (by decide +kernel) ⟨Nat.le_of_ble_eq_true rfl, Nat.le_of_ble_eq_true rfl⟩) (z_pV (ci := 3) hK hP hD zX_nil [1] (by decide) rfl rfl 1 rfl) rfl rfl hl.1 rfl (lv_room (Nat.le_of_ble_eq_true rfl)) dX8_wage_38 ⟨Nat.le_of_ble_eq_true rfl, Nat.le_of_ble_eq_true rfl⟩) hP hD hS hA [1] [0] [0, 1] rfl rfl (by decide) (by decide) (fun _ => rfl) (by decide) (fun r26 u25 H locs hp27 hP hD hS => ?_)
        have hP : va_P (dC, dI) vwCl [(ad 0, .inr (8, xf0 ad)), (ad 3, .inr (3, xf3 ad))] H := hP
        have hD : va_D A [(ad 0, .inr (8, xf0 ad)), (ad 3, .inr (3, xf3 ad))] := hD
        refine W.widen (k := 0) (n := 0) (by decide) (by decide) ?_
        rcases hp27 with ⟨rfl, f28⟩ | ⟨rfl, f29⟩
        · refine lv_if_ne (tgt := 47) hx hb dX8_wage_41 (by decide) (fun c => absurd (by decide) c) (fun _ => ?_)
          refine lv_bipush (v := (-2)) hx hb dX8_wage_44 (by decide) ?_
          have hP9 := hP.sub (ws' := []) [] rfl
          have hD9 := hD.sub (ws' := []) [] (by decide) rfl
          exact z_iret () hx hb hr hlocks hK hP9 hD9 hS hAe hQ rfl (Or.inr (Or.inr (Or.inr (Or.inr (Or.inr (Or.inr (Or.inl ⟨rfl, f7, f8, f15, f16, f23, f24, f28⟩))))))) dX8_wage_46
        · refine lv_if_ne (tgt := 47) hx hb dX8_wage_41 (by decide) (fun c => absurd (by decide) c) (fun _ => ?_)
          refine lv_bipush (v := (-2)) hx hb dX8_wage_44 (by decide) ?_
          have hP9 := hP.sub (ws' := []) [] rfl
          have hD9 := hD.sub (ws' := []) [] (by decide) rfl
          exact z_iret () hx hb hr hlocks hK hP9 hD9 hS hAe hQ rfl (Or.inr (Or.inr (Or.inr (Or.inr (Or.inr (Or.inr (Or.inr ⟨rfl, f7, f8, f15, f16, f23, f24, f29⟩))))))) dX8_wage_46
set_option maxHeartbeats 4000000 in
set_option maxRecDepth 100000 in
theorem c_X8_within_32 (l : Launch) (dC : Nat → ClassId) (dI : Nat → Nat → Nat) (cB cI cJ cZ cP cQ : ClassId) (sz : Nat) (p0 : Int32) : Met l yX8_within wsX8_within ({ frames := 0, cells := 0, slots := 0, locals := 0 } : Room) (zPc [.int p0, .int 0, .int 2000000000] (dC, dI) (zT cB cI cJ cZ cP cQ) [] sz [] []) (va_Qi (fun r _ => (fun r => (r = 0 ∧ p0.toInt < 0) ∨ (r = 0 ∧ 0 ≤ p0.toInt ∧ 2000000000 < p0.toInt) ∨ (r = 1 ∧ 0 ≤ p0.toInt ∧ p0.toInt ≤ 2000000000)) r) (zB (dC, dI) (zT cB cI cJ cZ cP cQ) (fun _ : Unit => []) [] sz) (va_A [] sz)) 0 0 (va_A [] sz) := by
  refine z_enter (cc := cX8_within) (maxL := 3) (ret := (some .boolean)) (by decide) rfl (Nat.le_of_ble_eq_true rfl) ?_
  intro p e s m below meth c A ls Q H locs hx hb hr hml hown hts hlocks hin hK hP hD hA hX hS hAe hQ hl
  have hown : s.vm.findClass RX8 = some m.cls := hown
  have hl : lv_has ls 3 [(0, .int p0), (1, .int 0), (2, .int 2000000000)] := hl
  refine lv_iload_n hx hb dX8_within_0 rfl (lv_at hl 0 rfl) ?_
  refine lv_iload_n hx hb dX8_within_1 rfl (lv_at hl 1 rfl) ?_
  refine lv_icmp_lt (tgt := 14) hx hb dX8_within_2 (by decide) (fun c_1 => ?_) (fun c_1 => ?_)
  · have f2 : p0.toInt < 0 := z_lt rfl (by decide) c_1
    refine lv_iconst (v := 0) hx hb dX8_within_14 (by decide) ?_
    exact z_zret () hx hb hr hlocks hK hP hD hS hAe hQ rfl (Or.inl (⟨rfl, f2⟩)) (by decide) dX8_within_15
  · have f2 : 0 ≤ p0.toInt := z_nlt rfl (by decide) c_1
    refine lv_iload_n hx hb dX8_within_5 rfl (lv_at hl 0 rfl) ?_
    refine lv_iload_n hx hb dX8_within_6 rfl (lv_at hl 2 rfl) ?_
    refine lv_icmp_gt (tgt := 14) hx hb dX8_within_7 (by decide) (fun c_3 => ?_) (fun c_3 => ?_)
    · have f4 : 2000000000 < p0.toInt := z_lt (by decide) rfl c_3
      refine lv_iconst (v := 0) hx hb dX8_within_14 (by decide) ?_
      exact z_zret () hx hb hr hlocks hK hP hD hS hAe hQ rfl (Or.inr (Or.inl ⟨rfl, f2, f4⟩)) (by decide) dX8_within_15
    · have f4 : p0.toInt ≤ 2000000000 := z_nlt (by decide) rfl c_3
      refine lv_iconst (v := 1) hx hb dX8_within_10 (by decide) ?_
      refine lv_goto (tgt := 15) hx hb dX8_within_11 (by decide) ?_
      exact z_zret () hx hb hr hlocks hK hP hD hS hAe hQ rfl (Or.inr (Or.inr ⟨rfl, f2, f4⟩)) (by decide) dX8_within_15
set_option maxHeartbeats 4000000 in
set_option maxRecDepth 100000 in
theorem c_X8_isSeed_32 (l : Launch) (dC : Nat → ClassId) (dI : Nat → Nat → Nat) (cB cI cJ cZ cP cQ : ClassId) (sz : Nat) (p0 : Int32) : Met l yX8_isSeed wsX8_isSeed ({ frames := 1, cells := 0, slots := 0, locals := 22 } : Room) (zPc [.int p0] (dC, dI) (zT cB cI cJ cZ cP cQ) [] sz [] []) (va_Qi (fun r _ => (fun r => (r = 0 ∧ p0.toInt < 0) ∨ (r = 0 ∧ 0 ≤ p0.toInt ∧ 2000000000 < p0.toInt) ∨ (r = 1 ∧ 0 ≤ p0.toInt ∧ p0.toInt ≤ 2000000000)) r) (zB (dC, dI) (zT cB cI cJ cZ cP cQ) (fun _ : Unit => []) [] sz) (va_A [] sz)) 0 0 (va_A [] sz) := by
  refine z_enter (cc := cX8_isSeed) (maxL := 1) (ret := (some .boolean)) (by decide) rfl (Nat.le_of_ble_eq_true rfl) ?_
  intro p e s m below meth c A ls Q H locs hx hb hr hml hown hts hlocks hin hK hP hD hA hX hS hAe hQ hl
  have hown : s.vm.findClass RX8 = some m.cls := hown
  have hk0 := hts (.constant RX8 412 2000000000) (by decide +kernel)
  have hl : lv_has ls 1 [(0, .int p0)] := hl
  refine lv_iload_n hx hb dX8_isSeed_0 rfl (lv_at hl 0 rfl) ?_
  refine lv_iconst (v := 0) hx hb dX8_isSeed_1 (by decide) ?_
  refine lv_ldcw hx hb hown hk0 dX8_isSeed_2 ?_
  refine z_fini (w' := fun (u1 : Unit) => []) (va_runS (As := [.int p0, .int 0, .int 2000000000]) (rest := []) ⟨hx, hb, hml, hown, hts⟩ (c_X8_within_32 l dC dI cB cI cJ cZ cP cQ H.size p0) (va_cwS 3 hts gX8_isSeed_X8_within rfl rfl rfl (by decide +kernel) ⟨Nat.le_of_ble_eq_true rfl, Nat.le_of_ble_eq_true rfl⟩) (z_pS hK hP hD zX_nil [] (by decide) rfl) rfl rfl hl.1 rfl (lv_room (Nat.le_of_ble_eq_true rfl)) dX8_isSeed_5 ⟨Nat.le_of_ble_eq_true rfl, Nat.le_of_ble_eq_true rfl⟩) hP hD hS hA [] [] [] rfl rfl (by decide) (by decide) (fun _ => rfl) (by decide) (fun r2 u1 H locs hp3 hP hD hS => ?_)
  have hP : va_P (dC, dI) vwCl [] H := hP
  have hD : va_D A [] := hD
  refine W.widen (k := 0) (n := 0) (by decide) (by decide) ?_
  rcases hp3 with ⟨rfl, f4⟩ | ⟨rfl, f5, f6⟩ | ⟨rfl, f7, f8⟩
  · exact z_zret () hx hb hr hlocks hK hP hD hS hAe hQ rfl (Or.inl (⟨rfl, f4⟩)) (by decide) dX8_isSeed_8
  · exact z_zret () hx hb hr hlocks hK hP hD hS hAe hQ rfl (Or.inr (Or.inl ⟨rfl, f5, f6⟩)) (by decide) dX8_isSeed_8
  · exact z_zret () hx hb hr hlocks hK hP hD hS hAe hQ rfl (Or.inr (Or.inr ⟨rfl, f7, f8⟩)) (by decide) dX8_isSeed_8
set_option maxHeartbeats 4000000 in
set_option maxRecDepth 100000 in
theorem c_X8_within_33 (l : Launch) (dC : Nat → ClassId) (dI : Nat → Nat → Nat) (cB cI cJ cZ cP cQ : ClassId) (sz : Nat) (p0 : Int32) : Met l yX8_within wsX8_within ({ frames := 0, cells := 0, slots := 0, locals := 0 } : Room) (zPc [.int p0, .int 1, .int 200] (dC, dI) (zT cB cI cJ cZ cP cQ) [] sz [] []) (va_Qi (fun r _ => (fun r => (r = 0 ∧ p0.toInt < 1) ∨ (r = 0 ∧ 1 ≤ p0.toInt ∧ 200 < p0.toInt) ∨ (r = 1 ∧ 1 ≤ p0.toInt ∧ p0.toInt ≤ 200)) r) (zB (dC, dI) (zT cB cI cJ cZ cP cQ) (fun _ : Unit => []) [] sz) (va_A [] sz)) 0 0 (va_A [] sz) := by
  refine z_enter (cc := cX8_within) (maxL := 3) (ret := (some .boolean)) (by decide) rfl (Nat.le_of_ble_eq_true rfl) ?_
  intro p e s m below meth c A ls Q H locs hx hb hr hml hown hts hlocks hin hK hP hD hA hX hS hAe hQ hl
  have hown : s.vm.findClass RX8 = some m.cls := hown
  have hl : lv_has ls 3 [(0, .int p0), (1, .int 1), (2, .int 200)] := hl
  refine lv_iload_n hx hb dX8_within_0 rfl (lv_at hl 0 rfl) ?_
  refine lv_iload_n hx hb dX8_within_1 rfl (lv_at hl 1 rfl) ?_
  refine lv_icmp_lt (tgt := 14) hx hb dX8_within_2 (by decide) (fun c_1 => ?_) (fun c_1 => ?_)
  · have f2 : p0.toInt < 1 := z_lt rfl (by decide) c_1
    refine lv_iconst (v := 0) hx hb dX8_within_14 (by decide) ?_
    exact z_zret () hx hb hr hlocks hK hP hD hS hAe hQ rfl (Or.inl (⟨rfl, f2⟩)) (by decide) dX8_within_15
  · have f2 : 1 ≤ p0.toInt := z_nlt rfl (by decide) c_1
    refine lv_iload_n hx hb dX8_within_5 rfl (lv_at hl 0 rfl) ?_
    refine lv_iload_n hx hb dX8_within_6 rfl (lv_at hl 2 rfl) ?_
    refine lv_icmp_gt (tgt := 14) hx hb dX8_within_7 (by decide) (fun c_3 => ?_) (fun c_3 => ?_)
    · have f4 : 200 < p0.toInt := z_lt (by decide) rfl c_3
      refine lv_iconst (v := 0) hx hb dX8_within_14 (by decide) ?_
      exact z_zret () hx hb hr hlocks hK hP hD hS hAe hQ rfl (Or.inr (Or.inl ⟨rfl, f2, f4⟩)) (by decide) dX8_within_15
    · have f4 : p0.toInt ≤ 200 := z_nlt (by decide) rfl c_3
      refine lv_iconst (v := 1) hx hb dX8_within_10 (by decide) ?_
      refine lv_goto (tgt := 15) hx hb dX8_within_11 (by decide) ?_
      exact z_zret () hx hb hr hlocks hK hP hD hS hAe hQ rfl (Or.inr (Or.inr ⟨rfl, f2, f4⟩)) (by decide) dX8_within_15
set_option maxHeartbeats 4000000 in
set_option maxRecDepth 100000 in
theorem c_X3_canBeDrawnFrom_34 (l : Launch) (dC : Nat → ClassId) (dI : Nat → Nat → Nat) (cB cI cJ cZ cP cQ : ClassId) (ad : Nat → Nat) (sz : Nat) : Met l yX3_canBeDrawnFrom wsX3_canBeDrawnFrom ({ frames := 0, cells := 0, slots := 0, locals := 0 } : Room) (zPc [.ref (ad 3)] (dC, dI) (zT cB cI cJ cZ cP cQ) [(ad 3, .inr (3, xf3 ad))] sz [] []) (va_Qi (fun r _ => (fun r => r = 0) r) (zB (dC, dI) (zT cB cI cJ cZ cP cQ) (fun _ : Unit => [(ad 3, .inr (3, xf3 ad))]) [(ad 3, .inr (3, xf3 ad))] sz) (va_A [(ad 3, .inr (3, xf3 ad))] sz)) 0 0 (va_A [(ad 3, .inr (3, xf3 ad))] sz) := by
  refine z_enter (cc := cX3_canBeDrawnFrom) (maxL := 1) (ret := (some .boolean)) (by decide) rfl (Nat.le_of_ble_eq_true rfl) ?_
  intro p e s m below meth c A ls Q H locs hx hb hr hml hown hts hlocks hin hK hP hD hA hX hS hAe hQ hl
  have hown : s.vm.findClass RX3 = some m.cls := hown
  have hi3 : ∀ w ∈ wsX30, w ∈ wsX3_canBeDrawnFrom := fun w h => List.mem_cons_of_mem _ (List.mem_append_right _ h)
  have hk0 := hts (.fieldLink RX3 49 "MonthPush$Land" "laws" "I") (by decide +kernel)
  have hl : lv_has ls 1 [(0, .ref (ad 3))] := hl
  refine lv_aload_n hx hb dX3_canBeDrawnFrom_0 rfl (lv_at hl 0 rfl) ?_
  refine va_get (D := (dC, dI)) (ci := 3) (v := .int 0) (C := RX3) (T := TX3) (N := 16) hx hb hts hi3 hown hK hP 0 rfl rfl 1 (by decide) hk0 (fun _ h9 => h9) rfl dX3_canBeDrawnFrom_1 ?_
  refine lv_if_le (tgt := 18) hx hb dX3_canBeDrawnFrom_4 (by decide) (fun _ => ?_) (fun c => absurd (by decide) c)
  refine lv_iconst (v := 0) hx hb dX3_canBeDrawnFrom_18 (by decide) ?_
  exact z_zret () hx hb hr hlocks hK hP hD hS hAe hQ rfl rfl (by decide) dX3_canBeDrawnFrom_19
set_option maxHeartbeats 4000000 in
set_option maxRecDepth 100000 in
theorem c_X8_draw_34 (l : Launch) (dC : Nat → ClassId) (dI : Nat → Nat → Nat) (cB cI cJ cZ cP cQ : ClassId) (ad : Nat → Nat) (sz : Nat) (p1 : Int32) (p2 : Int32) : Met l yX8_draw wsX8_draw ({ frames := 2, cells := 0, slots := 0, locals := 42 } : Room) (zPc [.ref (ad 0), .int p1, .int p2] (dC, dI) (zT cB cI cJ cZ cP cQ) [(ad 0, .inr (8, xf0 ad)), (ad 3, .inr (3, xf3 ad))] sz [] []) (va_Qi (fun r _ => (fun r => (r = (-2) ∧ p1.toInt < 0) ∨ (r = (-2) ∧ 0 ≤ p1.toInt ∧ 2000000000 < p1.toInt) ∨ (r = (-2) ∧ 0 ≤ p1.toInt ∧ p1.toInt ≤ 2000000000 ∧ p2.toInt < 1) ∨ (r = (-2) ∧ 0 ≤ p1.toInt ∧ p1.toInt ≤ 2000000000 ∧ 1 ≤ p2.toInt ∧ 200 < p2.toInt) ∨ (r = (-6) ∧ 0 ≤ p1.toInt ∧ p1.toInt ≤ 2000000000 ∧ 1 ≤ p2.toInt ∧ p2.toInt ≤ 200)) r) (zB (dC, dI) (zT cB cI cJ cZ cP cQ) (fun _ : Unit => []) [(ad 0, .inr (8, xf0 ad)), (ad 3, .inr (3, xf3 ad))] sz) (va_A [(ad 0, .inr (8, xf0 ad)), (ad 3, .inr (3, xf3 ad))] sz)) 0 0 (va_A [(ad 0, .inr (8, xf0 ad)), (ad 3, .inr (3, xf3 ad))] sz) := by
  refine z_enter (cc := cX8_draw) (maxL := 3) (ret := (some .int)) (by decide) rfl (Nat.le_of_ble_eq_true rfl) ?_
  intro p e s m below meth c A ls Q H locs hx hb hr hml hown hts hlocks hin hK hP hD hA hX hS hAe hQ hl
  have hown : s.vm.findClass RX8 = some m.cls := hown
  have hi8 : ∀ w ∈ wsX80, w ∈ wsX8_draw := fun w h => List.mem_cons_of_mem _ (List.mem_append_left _ (List.mem_append_left _ (List.mem_append_left _ (List.mem_append_right _ h))))
  have hk0 := hts (.fieldLink RX8 19 "MonthPush" "now" "LMonthPush$Land;") (by decide +kernel)
  have hl : lv_has ls 3 [(0, .ref (ad 0)), (1, .int p1), (2, .int p2)] := hl
  refine lv_iload_n hx hb dX8_draw_0 rfl (lv_at hl 1 rfl) ?_
  refine z_fini (w' := fun (u1 : Unit) => [(ad 0, .inr (8, xf0 ad)), (ad 3, .inr (3, xf3 ad))]) (va_runS (As := [.int p1]) (rest := []) ⟨hx, hb, hml, hown, hts⟩ (c_X8_isSeed_32 l dC dI cB cI cJ cZ cP cQ H.size p1) (va_cwS 1 hts gX8_draw_X8_isSeed rfl rfl rfl (by decide +kernel) ⟨Nat.le_of_ble_eq_true rfl, Nat.le_of_ble_eq_true rfl⟩) (z_pS hK hP hD zX_nil [] (by decide) rfl) rfl rfl hl.1 rfl (lv_room (Nat.le_of_ble_eq_true rfl)) dX8_draw_1 ⟨Nat.le_of_ble_eq_true rfl, Nat.le_of_ble_eq_true rfl⟩) hP hD hS hA [] [0, 1] [0, 1] rfl rfl (by decide) (by decide) (fun _ => rfl) (by decide) (fun r2 u1 H locs hp3 hP hD hS => ?_)
  have hP : va_P (dC, dI) vwCl [(ad 0, .inr (8, xf0 ad)), (ad 3, .inr (3, xf3 ad))] H := hP
  have hD : va_D A [(ad 0, .inr (8, xf0 ad)), (ad 3, .inr (3, xf3 ad))] := hD
  refine W.widen (k := 0) (n := 0) (by decide) (by decide) ?_
  rcases hp3 with ⟨rfl, f4⟩ | ⟨rfl, f5, f6⟩ | ⟨rfl, f7, f8⟩
  · refine lv_if_eq (tgt := 18) hx hb dX8_draw_4 (by decide) (fun _ => ?_) (fun c => absurd (by decide) c)
    refine lv_bipush (v := (-2)) hx hb dX8_draw_18 (by decide) ?_
    have hP9 := hP.sub (ws' := []) [] rfl
    have hD9 := hD.sub (ws' := []) [] (by decide) rfl
    exact z_iret () hx hb hr hlocks hK hP9 hD9 hS hAe hQ rfl (Or.inl (⟨rfl, f4⟩)) dX8_draw_20
  · refine lv_if_eq (tgt := 18) hx hb dX8_draw_4 (by decide) (fun _ => ?_) (fun c => absurd (by decide) c)
    refine lv_bipush (v := (-2)) hx hb dX8_draw_18 (by decide) ?_
    have hP9 := hP.sub (ws' := []) [] rfl
    have hD9 := hD.sub (ws' := []) [] (by decide) rfl
    exact z_iret () hx hb hr hlocks hK hP9 hD9 hS hAe hQ rfl (Or.inr (Or.inl ⟨rfl, f5, f6⟩)) dX8_draw_20
  · refine lv_if_eq (tgt := 18) hx hb dX8_draw_4 (by decide) (fun c => absurd c (by decide)) (fun _ => ?_)
    refine lv_iload_n hx hb dX8_draw_7 rfl (lv_at hl 2 rfl) ?_
    refine lv_iconst (v := 1) hx hb dX8_draw_8 (by decide) ?_
    refine lv_sipush (v := 200) hx hb dX8_draw_9 (by decide) ?_
    refine z_fini (w' := fun (u9 : Unit) => [(ad 0, .inr (8, xf0 ad)), (ad 3, .inr (3, xf3 ad))]) (va_runS (As := [.int p2, .int 1, .int 200]) (rest := []) ⟨hx, hb, hml, hown, hts⟩ (c_X8_within_33 l dC dI cB cI cJ cZ cP cQ H.size p2) (va_cwS 3 hts gX8_draw_X8_within rfl rfl rfl (by decide +kernel) ⟨Nat.le_of_ble_eq_true rfl, Nat.le_of_ble_eq_true rfl⟩) (z_pS hK hP hD zX_nil [] (by decide) rfl) rfl rfl hl.1 rfl (lv_room (Nat.le_of_ble_eq_true rfl)) dX8_draw_12 ⟨Nat.le_of_ble_eq_true rfl, Nat.le_of_ble_eq_true rfl⟩) hP hD hS hA [] [0, 1] [0, 1] rfl rfl (by decide) (by decide) (fun _ => rfl) (by decide) (fun r10 u9 H locs hp11 hP hD hS => ?_)
    have hP : va_P (dC, dI) vwCl [(ad 0, .inr (8, xf0 ad)), (ad 3, .inr (3, xf3 ad))] H := hP
    have hD : va_D A [(ad 0, .inr (8, xf0 ad)), (ad 3, .inr (3, xf3 ad))] := hD
    refine W.widen (k := 0) (n := 0) (by decide) (by decide) ?_
    rcases hp11 with ⟨rfl, f12⟩ | ⟨rfl, f13, f14⟩ | ⟨rfl, f15, f16⟩
    · refine lv_if_ne (tgt := 21) hx hb dX8_draw_15 (by decide) (fun c => absurd (by decide) c) (fun _ => ?_)
      refine lv_bipush (v := (-2)) hx hb dX8_draw_18 (by decide) ?_
      have hP9 := hP.sub (ws' := []) [] rfl
      have hD9 := hD.sub (ws' := []) [] (by decide) rfl
      exact z_iret () hx hb hr hlocks hK hP9 hD9 hS hAe hQ rfl (Or.inr (Or.inr (Or.inl ⟨rfl, f7, f8, f12⟩))) dX8_draw_20
    · refine lv_if_ne (tgt := 21) hx hb dX8_draw_15 (by decide) (fun c => absurd (by decide) c) (fun _ => ?_)
      refine lv_bipush (v := (-2)) hx hb dX8_draw_18 (by decide) ?_
      have hP9 := hP.sub (ws' := []) [] rfl
      have hD9 := hD.sub (ws' := []) [] (by decide) rfl
      exact z_iret () hx hb hr hlocks hK hP9 hD9 hS hAe hQ rfl (Or.inr (Or.inr (Or.inr (Or.inl ⟨rfl, f7, f8, f13, f14⟩)))) dX8_draw_20
    · refine lv_if_ne (tgt := 21) hx hb dX8_draw_15 (by decide) (fun _ => ?_) (fun c => absurd c (by decide))
      refine lv_aload_n hx hb dX8_draw_21 rfl (lv_at hl 0 rfl) ?_
      refine va_get (D := (dC, dI)) (ci := 8) (v := .ref (ad 3)) (C := RX8) (T := TX8) (N := 10) hx hb hts hi8 hown hK hP 0 rfl rfl 1 (by decide) hk0 (fun _ h9 => h9) rfl dX8_draw_22 ?_
      refine z_fini (w' := fun (u17 : Unit) => [(ad 0, .inr (8, xf0 ad)), (ad 3, .inr (3, xf3 ad))]) (va_runV (As := []) (rest := []) ⟨hx, hb, hml, hown, hts⟩ (c_X3_canBeDrawnFrom_34 l dC dI cB cI cJ cZ cP cQ ad H.size) (cwV 0 hts gX8_draw_X3_canBeDrawnFrom rfl rfl rfl (by decide +kernel) ⟨Nat.le_of_ble_eq_true rfl, Nat.le_of_ble_eq_true rfl⟩) (z_pV (ci := 3) hK hP hD zX_nil [1] (by decide) rfl rfl 1 rfl) rfl rfl hl.1 rfl (lv_room (Nat.le_of_ble_eq_true rfl)) dX8_draw_25 ⟨Nat.le_of_ble_eq_true rfl, Nat.le_of_ble_eq_true rfl⟩) hP hD hS hA [1] [0] [0, 1] rfl rfl (by decide) (by decide) (fun _ => rfl) (by decide) (fun r18 u17 H locs hp19 hP hD hS => ?_)
      have hP : va_P (dC, dI) vwCl [(ad 0, .inr (8, xf0 ad)), (ad 3, .inr (3, xf3 ad))] H := hP
      have hD : va_D A [(ad 0, .inr (8, xf0 ad)), (ad 3, .inr (3, xf3 ad))] := hD
      refine W.widen (k := 0) (n := 0) (by decide) (by decide) ?_
      obtain rfl : r18 = 0 := hp19
      refine lv_if_ne (tgt := 34) hx hb dX8_draw_28 (by decide) (fun c => absurd (by decide) c) (fun _ => ?_)
      refine lv_bipush (v := (-6)) hx hb dX8_draw_31 (by decide) ?_
      have hP9 := hP.sub (ws' := []) [] rfl
      have hD9 := hD.sub (ws' := []) [] (by decide) rfl
      exact z_iret () hx hb hr hlocks hK hP9 hD9 hS hAe hQ rfl (Or.inr (Or.inr (Or.inr (Or.inr ⟨rfl, f7, f8, f15, f16⟩)))) dX8_draw_33
set_option maxHeartbeats 4000000 in
set_option maxRecDepth 100000 in
theorem c_X8_tellSheet_36 (l : Launch) (dC : Nat → ClassId) (dI : Nat → Nat → Nat) (cB cI cJ cZ cP cQ : ClassId) (ad : Nat → Nat) (sz : Nat) (p1 : Int32) (p2 : Int32) (p3 : Int32) (p4 : Int32) : Met l yX8_tellSheet wsX8_tellSheet ({ frames := 0, cells := 0, slots := 0, locals := 0 } : Room) (zPc [.ref (ad 0), .long p1.toInt64, .long p2.toInt64, .long p3.toInt64, .long p4.toInt64] (dC, dI) (zT cB cI cJ cZ cP cQ) [(ad 0, .inr (8, xf0 ad)), (ad 3, .inr (3, xf3 ad))] sz [] []) (va_Qi (fun r _ => (fun r => (r = (-2) ∧ p1.toInt < 0) ∨ (r = (-2) ∧ 0 ≤ p1.toInt)) r) (zB (dC, dI) (zT cB cI cJ cZ cP cQ) (fun _ : Unit => [(ad 0, .inr (8, xf0 ad)), (ad 3, .inr (3, xf3 ad))]) [(ad 0, .inr (8, xf0 ad)), (ad 3, .inr (3, xf3 ad))] sz) (va_A [(ad 0, .inr (8, xf0 ad)), (ad 3, .inr (3, xf3 ad))] sz)) 0 0 (va_A [(ad 0, .inr (8, xf0 ad)), (ad 3, .inr (3, xf3 ad))] sz) := by
  refine z_enter (cc := cX8_tellSheet) (maxL := 9) (ret := (some .int)) (by decide) rfl (Nat.le_of_ble_eq_true rfl) ?_
  intro p e s m below meth c A ls Q H locs hx hb hr hml hown hts hlocks hin hK hP hD hA hX hS hAe hQ hl
  have hown : s.vm.findClass RX8 = some m.cls := hown
  have hi3 : ∀ w ∈ wsX30, w ∈ wsX8_tellSheet := fun w h => List.mem_cons_of_mem _ (List.mem_append_left _ (List.mem_append_right _ h))
  have hi8 : ∀ w ∈ wsX80, w ∈ wsX8_tellSheet := fun w h => List.mem_cons_of_mem _ (List.mem_append_left _ (List.mem_append_left _ (List.mem_append_right _ h)))
  have hk0 := hts (.fieldLink RX8 19 "MonthPush" "now" "LMonthPush$Land;") (by decide +kernel)
  have hk1 := hts (.fieldLink RX8 134 "MonthPush$Land" "laws" "I") (by decide +kernel)
  have hl : lv_has ls 9 [(0, .ref (ad 0)), (1, .long p1.toInt64), (3, .long p2.toInt64), (5, .long p3.toInt64), (7, .long p4.toInt64)] := hl
  refine lv_lload_n hx hb dX8_tellSheet_0 rfl (lv_at hl 1 rfl) ?_
  refine lv_lconst (v := 0) hx hb dX8_tellSheet_1 (by decide) ?_
  refine W.lcmp hx hb dX8_tellSheet_2 ?_
  refine lv_if_lt (tgt := 33) hx hb dX8_tellSheet_3 (by decide) (fun c_1 => ?_) (fun c_1 => ?_)
  · have f2 : p1.toInt < 0 := z_llt (z_i2l p1) (by decide) c_1
    refine lv_bipush (v := (-2)) hx hb dX8_tellSheet_33 (by decide) ?_
    exact z_iret () hx hb hr hlocks hK hP hD hS hAe hQ rfl (Or.inl (⟨rfl, f2⟩)) dX8_tellSheet_35
  · have f2 : 0 ≤ p1.toInt := z_lnlt (z_i2l p1) (by decide) c_1
    refine lv_lload_n hx hb dX8_tellSheet_6 rfl (lv_at hl 1 rfl) ?_
    refine lv_aload_n hx hb dX8_tellSheet_7 rfl (lv_at hl 0 rfl) ?_
    refine va_get (D := (dC, dI)) (ci := 8) (v := .ref (ad 3)) (C := RX8) (T := TX8) (N := 10) hx hb hts hi8 hown hK hP 0 rfl rfl 1 (by decide) hk0 (fun _ h9 => h9) rfl dX8_tellSheet_8 ?_
    refine va_get (D := (dC, dI)) (ci := 3) (v := .int 0) (C := RX3) (T := TX3) (N := 16) hx hb hts hi3 hown hK hP 1 rfl rfl 1 (by decide) hk1 (fun _ h9 => h9) rfl dX8_tellSheet_11 ?_
    refine lv_i2l (v := 0) hx hb dX8_tellSheet_14 (by decide) ?_
    refine W.lcmp hx hb dX8_tellSheet_15 ?_
    refine lv_if_ge (tgt := 33) hx hb dX8_tellSheet_16 (by decide) (fun _ => ?_) (fun c => absurd (show p1.toInt < 0 from z_lnge (z_i2l p1) (by decide) c) (by omega))
    refine lv_bipush (v := (-2)) hx hb dX8_tellSheet_33 (by decide) ?_
    exact z_iret () hx hb hr hlocks hK hP hD hS hAe hQ rfl (Or.inr ⟨rfl, f2⟩) dX8_tellSheet_35
set_option maxHeartbeats 4000000 in
set_option maxRecDepth 100000 in
theorem c_X8_sheet_36 (l : Launch) (dC : Nat → ClassId) (dI : Nat → Nat → Nat) (cB cI cJ cZ cP cQ : ClassId) (ad : Nat → Nat) (sz : Nat) (p1 : Int32) (p2 : Int32) (p3 : Int32) (p4 : Int32) : Met l yX8_sheet wsX8_sheet ({ frames := 1, cells := 0, slots := 0, locals := 28 } : Room) (zPc [.ref (ad 0), .int p1, .int p2, .int p3, .int p4] (dC, dI) (zT cB cI cJ cZ cP cQ) [(ad 0, .inr (8, xf0 ad)), (ad 3, .inr (3, xf3 ad))] sz [] []) (va_Qi (fun r _ => (fun r => (r = (-2) ∧ p1.toInt < 0) ∨ (r = (-2) ∧ 0 ≤ p1.toInt)) r) (zB (dC, dI) (zT cB cI cJ cZ cP cQ) (fun _ : Unit => []) [(ad 0, .inr (8, xf0 ad)), (ad 3, .inr (3, xf3 ad))] sz) (va_A [(ad 0, .inr (8, xf0 ad)), (ad 3, .inr (3, xf3 ad))] sz)) 0 0 (va_A [(ad 0, .inr (8, xf0 ad)), (ad 3, .inr (3, xf3 ad))] sz) := by
  refine z_enter (cc := cX8_sheet) (maxL := 5) (ret := (some .int)) (by decide) rfl (Nat.le_of_ble_eq_true rfl) ?_
  intro p e s m below meth c A ls Q H locs hx hb hr hml hown hts hlocks hin hK hP hD hA hX hS hAe hQ hl
  have hown : s.vm.findClass RX8 = some m.cls := hown
  have hl : lv_has ls 5 [(0, .ref (ad 0)), (1, .int p1), (2, .int p2), (3, .int p3), (4, .int p4)] := hl
  refine lv_aload_n hx hb dX8_sheet_0 rfl (lv_at hl 0 rfl) ?_
  refine lv_iload_n hx hb dX8_sheet_1 rfl (lv_at hl 1 rfl) ?_
  refine lv_i2l hx hb dX8_sheet_2 rfl ?_
  refine lv_iload_n hx hb dX8_sheet_3 rfl (lv_at hl 2 rfl) ?_
  refine lv_i2l hx hb dX8_sheet_4 rfl ?_
  refine lv_iload_n hx hb dX8_sheet_5 rfl (lv_at hl 3 rfl) ?_
  refine lv_i2l hx hb dX8_sheet_6 rfl ?_
  refine lv_iload hx hb dX8_sheet_7 (lv_at hl 4 rfl) ?_
  refine lv_i2l hx hb dX8_sheet_9 rfl ?_
  refine z_fini (w' := fun (u1 : Unit) => [(ad 0, .inr (8, xf0 ad)), (ad 3, .inr (3, xf3 ad))]) (va_runV (As := [.long p1.toInt64, .long p2.toInt64, .long p3.toInt64, .long p4.toInt64]) (rest := []) ⟨hx, hb, hml, hown, hts⟩ (c_X8_tellSheet_36 l dC dI cB cI cJ cZ cP cQ ad H.size p1 p2 p3 p4) (cwV 4 hts gX8_sheet_X8_tellSheet rfl rfl rfl (by decide +kernel) ⟨Nat.le_of_ble_eq_true rfl, Nat.le_of_ble_eq_true rfl⟩) (z_pV (ci := 8) hK hP hD zX_nil [0, 1] (by decide) rfl rfl 0 rfl) rfl rfl hl.1 rfl (lv_room (Nat.le_of_ble_eq_true rfl)) dX8_sheet_10 ⟨Nat.le_of_ble_eq_true rfl, Nat.le_of_ble_eq_true rfl⟩) hP hD hS hA [0, 1] [] [0, 1] rfl rfl (by decide) (by decide) (fun _ => rfl) (by decide) (fun r2 u1 H locs hp3 hP hD hS => ?_)
  have hP : va_P (dC, dI) vwCl [(ad 0, .inr (8, xf0 ad)), (ad 3, .inr (3, xf3 ad))] H := hP
  have hD : va_D A [(ad 0, .inr (8, xf0 ad)), (ad 3, .inr (3, xf3 ad))] := hD
  refine W.widen (k := 0) (n := 0) (by decide) (by decide) ?_
  rcases hp3 with ⟨rfl, f4⟩ | ⟨rfl, f5⟩
  · have hP9 := hP.sub (ws' := []) [] rfl
    have hD9 := hD.sub (ws' := []) [] (by decide) rfl
    exact z_iret () hx hb hr hlocks hK hP9 hD9 hS hAe hQ rfl (Or.inl (⟨rfl, f4⟩)) dX8_sheet_13
  · have hP9 := hP.sub (ws' := []) [] rfl
    have hD9 := hD.sub (ws' := []) [] (by decide) rfl
    exact z_iret () hx hb hr hlocks hK hP9 hD9 hS hAe hQ rfl (Or.inr ⟨rfl, f5⟩) dX8_sheet_13
set_option maxHeartbeats 4000000 in
set_option maxRecDepth 100000 in
theorem c_X5_has_38 (l : Launch) (dC : Nat → ClassId) (dI : Nat → Nat → Nat) (cB cI cJ cZ cP cQ : ClassId) (ad : Nat → Nat) (sz : Nat) (p1 : Int32) : Met l yX5_has wsX5_has ({ frames := 0, cells := 0, slots := 0, locals := 0 } : Room) (zPc [.ref (ad 23), .int p1] (dC, dI) (zT cB cI cJ cZ cP cQ) [(ad 23, .inr (5, xf23 ad))] sz [] []) (va_Qi (fun r _ => (fun r => (r = 0 ∧ p1.toInt < 0) ∨ (r = 0 ∧ 0 ≤ p1.toInt)) r) (zB (dC, dI) (zT cB cI cJ cZ cP cQ) (fun _ : Unit => [(ad 23, .inr (5, xf23 ad))]) [(ad 23, .inr (5, xf23 ad))] sz) (va_A [(ad 23, .inr (5, xf23 ad))] sz)) 0 0 (va_A [(ad 23, .inr (5, xf23 ad))] sz) := by
  refine z_enter (cc := cX5_has) (maxL := 2) (ret := (some .boolean)) (by decide) rfl (Nat.le_of_ble_eq_true rfl) ?_
  intro p e s m below meth c A ls Q H locs hx hb hr hml hown hts hlocks hin hK hP hD hA hX hS hAe hQ hl
  have hown : s.vm.findClass RX5 = some m.cls := hown
  have hi5 : ∀ w ∈ wsX50, w ∈ wsX5_has := fun w h => List.mem_cons_of_mem _ (List.mem_append_right _ h)
  have hk0 := hts (.fieldLink RX5 30 "MonthPush$Sheets" "n" "I") (by decide +kernel)
  have hl : lv_has ls 2 [(0, .ref (ad 23)), (1, .int p1)] := hl
  refine lv_iload_n hx hb dX5_has_0 rfl (lv_at hl 1 rfl) ?_
  refine lv_if_lt (tgt := 16) hx hb dX5_has_1 (by decide) (fun c_1 => ?_) (fun c_1 => ?_)
  · have f2 : p1.toInt < 0 := z_lt rfl (by decide) c_1
    refine lv_iconst (v := 0) hx hb dX5_has_16 (by decide) ?_
    exact z_zret () hx hb hr hlocks hK hP hD hS hAe hQ rfl (Or.inl (⟨rfl, f2⟩)) (by decide) dX5_has_17
  · have f2 : 0 ≤ p1.toInt := z_nlt rfl (by decide) c_1
    refine lv_iload_n hx hb dX5_has_4 rfl (lv_at hl 1 rfl) ?_
    refine lv_aload_n hx hb dX5_has_5 rfl (lv_at hl 0 rfl) ?_
    refine va_get (D := (dC, dI)) (ci := 5) (v := .int 0) (C := RX5) (T := TX5) (N := 7) hx hb hts hi5 hown hK hP 0 rfl rfl 0 (by decide) hk0 (fun _ h9 => h9) rfl dX5_has_6 ?_
    refine lv_icmp_ge (tgt := 16) hx hb dX5_has_9 (by decide) (fun _ => ?_) (fun c => absurd (show p1.toInt < 0 from z_nle (by decide) rfl c) (by omega))
    refine lv_iconst (v := 0) hx hb dX5_has_16 (by decide) ?_
    exact z_zret () hx hb hr hlocks hK hP hD hS hAe hQ rfl (Or.inr ⟨rfl, f2⟩) (by decide) dX5_has_17
set_option maxHeartbeats 4000000 in
set_option maxRecDepth 100000 in
theorem c_X8_told_38 (l : Launch) (dC : Nat → ClassId) (dI : Nat → Nat → Nat) (cB cI cJ cZ cP cQ : ClassId) (ad : Nat → Nat) (sz : Nat) (p1 : Int32) (p2 : Int32) : Met l yX8_told wsX8_told ({ frames := 1, cells := 0, slots := 0, locals := 21 } : Room) (zPc [.ref (ad 0), .int p1, .int p2] (dC, dI) (zT cB cI cJ cZ cP cQ) [(ad 0, .inr (8, xf0 ad)), (ad 23, .inr (5, xf23 ad))] sz [] []) (va_Qi (fun r _ => (fun r => (r = (-1) ∧ p1.toInt < 0) ∨ (r = (-1) ∧ 0 ≤ p1.toInt)) r) (zB (dC, dI) (zT cB cI cJ cZ cP cQ) (fun _ : Unit => []) [(ad 0, .inr (8, xf0 ad)), (ad 23, .inr (5, xf23 ad))] sz) (va_A [(ad 0, .inr (8, xf0 ad)), (ad 23, .inr (5, xf23 ad))] sz)) 0 0 (va_A [(ad 0, .inr (8, xf0 ad)), (ad 23, .inr (5, xf23 ad))] sz) := by
  refine z_enter (cc := cX8_told) (maxL := 3) (ret := (some .int)) (by decide) rfl (Nat.le_of_ble_eq_true rfl) ?_
  intro p e s m below meth c A ls Q H locs hx hb hr hml hown hts hlocks hin hK hP hD hA hX hS hAe hQ hl
  have hown : s.vm.findClass RX8 = some m.cls := hown
  have hi8 : ∀ w ∈ wsX80, w ∈ wsX8_told := fun w h => List.mem_cons_of_mem _ (List.mem_append_left _ (List.mem_append_right _ h))
  have hk0 := hts (.fieldLink RX8 29 "MonthPush" "all" "LMonthPush$Sheets;") (by decide +kernel)
  have hl : lv_has ls 3 [(0, .ref (ad 0)), (1, .int p1), (2, .int p2)] := hl
  refine lv_aload_n hx hb dX8_told_0 rfl (lv_at hl 0 rfl) ?_
  refine va_get (D := (dC, dI)) (ci := 8) (v := .ref (ad 23)) (C := RX8) (T := TX8) (N := 10) hx hb hts hi8 hown hK hP 0 rfl rfl 3 (by decide) hk0 (fun _ h9 => h9) rfl dX8_told_1 ?_
  refine lv_iload_n hx hb dX8_told_4 rfl (lv_at hl 1 rfl) ?_
  refine z_fini (w' := fun (u1 : Unit) => [(ad 0, .inr (8, xf0 ad)), (ad 23, .inr (5, xf23 ad))]) (va_runV (As := [.int p1]) (rest := []) ⟨hx, hb, hml, hown, hts⟩ (c_X5_has_38 l dC dI cB cI cJ cZ cP cQ ad H.size p1) (cwV 1 hts gX8_told_X5_has rfl rfl rfl (by decide +kernel) ⟨Nat.le_of_ble_eq_true rfl, Nat.le_of_ble_eq_true rfl⟩) (z_pV (ci := 5) hK hP hD zX_nil [1] (by decide) rfl rfl 1 rfl) rfl rfl hl.1 rfl (lv_room (Nat.le_of_ble_eq_true rfl)) dX8_told_5 ⟨Nat.le_of_ble_eq_true rfl, Nat.le_of_ble_eq_true rfl⟩) hP hD hS hA [1] [0] [0, 1] rfl rfl (by decide) (by decide) (fun _ => rfl) (by decide) (fun r2 u1 H locs hp3 hP hD hS => ?_)
  have hP : va_P (dC, dI) vwCl [(ad 0, .inr (8, xf0 ad)), (ad 23, .inr (5, xf23 ad))] H := hP
  have hD : va_D A [(ad 0, .inr (8, xf0 ad)), (ad 23, .inr (5, xf23 ad))] := hD
  refine W.widen (k := 0) (n := 0) (by decide) (by decide) ?_
  rcases hp3 with ⟨rfl, f4⟩ | ⟨rfl, f5⟩
  · refine lv_if_ne (tgt := 13) hx hb dX8_told_8 (by decide) (fun c => absurd (by decide) c) (fun _ => ?_)
    refine lv_iconst (v := (-1)) hx hb dX8_told_11 (by decide) ?_
    have hP9 := hP.sub (ws' := []) [] rfl
    have hD9 := hD.sub (ws' := []) [] (by decide) rfl
    exact z_iret () hx hb hr hlocks hK hP9 hD9 hS hAe hQ rfl (Or.inl (⟨rfl, f4⟩)) dX8_told_12
  · refine lv_if_ne (tgt := 13) hx hb dX8_told_8 (by decide) (fun c => absurd (by decide) c) (fun _ => ?_)
    refine lv_iconst (v := (-1)) hx hb dX8_told_11 (by decide) ?_
    have hP9 := hP.sub (ws' := []) [] rfl
    have hD9 := hD.sub (ws' := []) [] (by decide) rfl
    exact z_iret () hx hb hr hlocks hK hP9 hD9 hS hAe hQ rfl (Or.inr ⟨rfl, f5⟩) dX8_told_12
set_option maxHeartbeats 4000000 in
set_option maxRecDepth 100000 in
theorem c_X8_isPlaced_40 (l : Launch) (dC : Nat → ClassId) (dI : Nat → Nat → Nat) (cB cI cJ cZ cP cQ : ClassId) (ad : Nat → Nat) (sz : Nat) (p2 : Int32) : Met l yX8_isPlaced wsX8_isPlaced ({ frames := 1, cells := 0, slots := 0, locals := 21 } : Room) (zPc [.ref (ad 0), .ref (ad 23), .int p2] (dC, dI) (zT cB cI cJ cZ cP cQ) [(ad 0, .inr (8, xf0 ad)), (ad 23, .inr (5, xf23 ad))] sz [] []) (va_Qi (fun r _ => (fun r => (r = 0 ∧ p2.toInt < 0) ∨ (r = 0 ∧ 0 ≤ p2.toInt)) r) (zB (dC, dI) (zT cB cI cJ cZ cP cQ) (fun _ : Unit => [(ad 0, .inr (8, xf0 ad)), (ad 23, .inr (5, xf23 ad))]) [(ad 0, .inr (8, xf0 ad)), (ad 23, .inr (5, xf23 ad))] sz) (va_A [(ad 0, .inr (8, xf0 ad)), (ad 23, .inr (5, xf23 ad))] sz)) 0 0 (va_A [(ad 0, .inr (8, xf0 ad)), (ad 23, .inr (5, xf23 ad))] sz) := by
  refine z_enter (cc := cX8_isPlaced) (maxL := 3) (ret := (some .boolean)) (by decide) rfl (Nat.le_of_ble_eq_true rfl) ?_
  intro p e s m below meth c A ls Q H locs hx hb hr hml hown hts hlocks hin hK hP hD hA hX hS hAe hQ hl
  have hown : s.vm.findClass RX8 = some m.cls := hown
  have hl : lv_has ls 3 [(0, .ref (ad 0)), (1, .ref (ad 23)), (2, .int p2)] := hl
  refine lv_aload_n hx hb dX8_isPlaced_0 rfl (lv_at hl 1 rfl) ?_
  refine lv_iload_n hx hb dX8_isPlaced_1 rfl (lv_at hl 2 rfl) ?_
  refine z_fini (w' := fun (u1 : Unit) => [(ad 0, .inr (8, xf0 ad)), (ad 23, .inr (5, xf23 ad))]) (va_runV (As := [.int p2]) (rest := []) ⟨hx, hb, hml, hown, hts⟩ (c_X5_has_38 l dC dI cB cI cJ cZ cP cQ ad H.size p2) (cwV 1 hts gX8_isPlaced_X5_has rfl rfl rfl (by decide +kernel) ⟨Nat.le_of_ble_eq_true rfl, Nat.le_of_ble_eq_true rfl⟩) (z_pV (ci := 5) hK hP hD zX_nil [1] (by decide) rfl rfl 1 rfl) rfl rfl hl.1 rfl (lv_room (Nat.le_of_ble_eq_true rfl)) dX8_isPlaced_2 ⟨Nat.le_of_ble_eq_true rfl, Nat.le_of_ble_eq_true rfl⟩) hP hD hS hA [1] [0] [0, 1] rfl rfl (by decide) (by decide) (fun _ => rfl) (by decide) (fun r2 u1 H locs hp3 hP hD hS => ?_)
  have hP : va_P (dC, dI) vwCl [(ad 0, .inr (8, xf0 ad)), (ad 23, .inr (5, xf23 ad))] H := hP
  have hD : va_D A [(ad 0, .inr (8, xf0 ad)), (ad 23, .inr (5, xf23 ad))] := hD
  refine W.widen (k := 0) (n := 0) (by decide) (by decide) ?_
  rcases hp3 with ⟨rfl, f4⟩ | ⟨rfl, f5⟩
  · refine lv_if_eq (tgt := 28) hx hb dX8_isPlaced_5 (by decide) (fun _ => ?_) (fun c => absurd (by decide) c)
    refine lv_iconst (v := 0) hx hb dX8_isPlaced_28 (by decide) ?_
    exact z_zret () hx hb hr hlocks hK hP hD hS hAe hQ rfl (Or.inl (⟨rfl, f4⟩)) (by decide) dX8_isPlaced_29
  · refine lv_if_eq (tgt := 28) hx hb dX8_isPlaced_5 (by decide) (fun _ => ?_) (fun c => absurd (by decide) c)
    refine lv_iconst (v := 0) hx hb dX8_isPlaced_28 (by decide) ?_
    exact z_zret () hx hb hr hlocks hK hP hD hS hAe hQ rfl (Or.inr ⟨rfl, f5⟩) (by decide) dX8_isPlaced_29
set_option maxHeartbeats 4000000 in
set_option maxRecDepth 100000 in
theorem c_X8_would_40 (l : Launch) (dC : Nat → ClassId) (dI : Nat → Nat → Nat) (cB cI cJ cZ cP cQ : ClassId) (ad : Nat → Nat) (sz : Nat) (p1 : Int32) (p2 : Int32) : Met l yX8_would wsX8_would ({ frames := 2, cells := 0, slots := 0, locals := 43 } : Room) (zPc [.ref (ad 0), .int p1, .int p2] (dC, dI) (zT cB cI cJ cZ cP cQ) [(ad 0, .inr (8, xf0 ad)), (ad 23, .inr (5, xf23 ad))] sz [] []) (va_Qi (fun r _ => (fun r => (r = (-2) ∧ p1.toInt < 0) ∨ (r = (-2) ∧ 0 ≤ p1.toInt)) r) (zB (dC, dI) (zT cB cI cJ cZ cP cQ) (fun _ : Unit => []) [(ad 0, .inr (8, xf0 ad)), (ad 23, .inr (5, xf23 ad))] sz) (va_A [(ad 0, .inr (8, xf0 ad)), (ad 23, .inr (5, xf23 ad))] sz)) 0 0 (va_A [(ad 0, .inr (8, xf0 ad)), (ad 23, .inr (5, xf23 ad))] sz) := by
  refine z_enter (cc := cX8_would) (maxL := 3) (ret := (some .int)) (by decide) rfl (Nat.le_of_ble_eq_true rfl) ?_
  intro p e s m below meth c A ls Q H locs hx hb hr hml hown hts hlocks hin hK hP hD hA hX hS hAe hQ hl
  have hown : s.vm.findClass RX8 = some m.cls := hown
  have hi8 : ∀ w ∈ wsX80, w ∈ wsX8_would := fun w h => List.mem_cons_of_mem _ (List.mem_append_left _ (List.mem_append_left _ (List.mem_append_right _ h)))
  have hk0 := hts (.fieldLink RX8 29 "MonthPush" "all" "LMonthPush$Sheets;") (by decide +kernel)
  have hl : lv_has ls 3 [(0, .ref (ad 0)), (1, .int p1), (2, .int p2)] := hl
  refine lv_aload_n hx hb dX8_would_0 rfl (lv_at hl 0 rfl) ?_
  refine lv_aload_n hx hb dX8_would_1 rfl (lv_at hl 0 rfl) ?_
  refine va_get (D := (dC, dI)) (ci := 8) (v := .ref (ad 23)) (C := RX8) (T := TX8) (N := 10) hx hb hts hi8 hown hK hP 0 rfl rfl 3 (by decide) hk0 (fun _ h9 => h9) rfl dX8_would_2 ?_
  refine lv_iload_n hx hb dX8_would_5 rfl (lv_at hl 1 rfl) ?_
  refine z_fini (w' := fun (u1 : Unit) => [(ad 0, .inr (8, xf0 ad)), (ad 23, .inr (5, xf23 ad))]) (va_runV (As := [.ref (ad 23), .int p1]) (rest := []) ⟨hx, hb, hml, hown, hts⟩ (c_X8_isPlaced_40 l dC dI cB cI cJ cZ cP cQ ad H.size p1) (cwV 2 hts gX8_would_X8_isPlaced rfl rfl rfl (by decide +kernel) ⟨Nat.le_of_ble_eq_true rfl, Nat.le_of_ble_eq_true rfl⟩) (z_pV (ci := 8) hK hP hD zX_nil [0, 1] (by decide) rfl rfl 0 rfl) rfl rfl hl.1 rfl (lv_room (Nat.le_of_ble_eq_true rfl)) dX8_would_6 ⟨Nat.le_of_ble_eq_true rfl, Nat.le_of_ble_eq_true rfl⟩) hP hD hS hA [0, 1] [] [0, 1] rfl rfl (by decide) (by decide) (fun _ => rfl) (by decide) (fun r2 u1 H locs hp3 hP hD hS => ?_)
  have hP : va_P (dC, dI) vwCl [(ad 0, .inr (8, xf0 ad)), (ad 23, .inr (5, xf23 ad))] H := hP
  have hD : va_D A [(ad 0, .inr (8, xf0 ad)), (ad 23, .inr (5, xf23 ad))] := hD
  refine W.widen (k := 0) (n := 0) (by decide) (by decide) ?_
  rcases hp3 with ⟨rfl, f4⟩ | ⟨rfl, f5⟩
  · refine lv_if_eq (tgt := 19) hx hb dX8_would_9 (by decide) (fun _ => ?_) (fun c => absurd (by decide) c)
    refine lv_bipush (v := (-2)) hx hb dX8_would_19 (by decide) ?_
    have hP9 := hP.sub (ws' := []) [] rfl
    have hD9 := hD.sub (ws' := []) [] (by decide) rfl
    exact z_iret () hx hb hr hlocks hK hP9 hD9 hS hAe hQ rfl (Or.inl (⟨rfl, f4⟩)) dX8_would_21
  · refine lv_if_eq (tgt := 19) hx hb dX8_would_9 (by decide) (fun _ => ?_) (fun c => absurd (by decide) c)
    refine lv_bipush (v := (-2)) hx hb dX8_would_19 (by decide) ?_
    have hP9 := hP.sub (ws' := []) [] rfl
    have hD9 := hD.sub (ws' := []) [] (by decide) rfl
    exact z_iret () hx hb hr hlocks hK hP9 hD9 hS hAe hQ rfl (Or.inr ⟨rfl, f5⟩) dX8_would_21
set_option maxHeartbeats 4000000 in
set_option maxRecDepth 100000 in
theorem c_X8_worth_41 (l : Launch) (dC : Nat → ClassId) (dI : Nat → Nat → Nat) (cB cI cJ cZ cP cQ : ClassId) (ad : Nat → Nat) (sz : Nat) (p1 : Int32) : Met l yX8_worth wsX8_worth ({ frames := 2, cells := 0, slots := 0, locals := 43 } : Room) (zPc [.ref (ad 0), .int p1] (dC, dI) (zT cB cI cJ cZ cP cQ) [(ad 0, .inr (8, xf0 ad)), (ad 23, .inr (5, xf23 ad))] sz [] []) (va_Qi (fun r _ => (fun r => (r = (-2000000000) ∧ p1.toInt < 0) ∨ (r = (-2000000000) ∧ 0 ≤ p1.toInt)) r) (zB (dC, dI) (zT cB cI cJ cZ cP cQ) (fun _ : Unit => []) [(ad 0, .inr (8, xf0 ad)), (ad 23, .inr (5, xf23 ad))] sz) (va_A [(ad 0, .inr (8, xf0 ad)), (ad 23, .inr (5, xf23 ad))] sz)) 0 0 (va_A [(ad 0, .inr (8, xf0 ad)), (ad 23, .inr (5, xf23 ad))] sz) := by
  refine z_enter (cc := cX8_worth) (maxL := 2) (ret := (some .int)) (by decide) rfl (Nat.le_of_ble_eq_true rfl) ?_
  intro p e s m below meth c A ls Q H locs hx hb hr hml hown hts hlocks hin hK hP hD hA hX hS hAe hQ hl
  have hown : s.vm.findClass RX8 = some m.cls := hown
  have hi8 : ∀ w ∈ wsX80, w ∈ wsX8_worth := fun w h => List.mem_cons_of_mem _ (List.mem_append_left _ (List.mem_append_left _ (List.mem_append_right _ h)))
  have hk0 := hts (.fieldLink RX8 29 "MonthPush" "all" "LMonthPush$Sheets;") (by decide +kernel)
  have hk1 := hts (.constant RX8 214 (-2000000000)) (by decide +kernel)
  have hl : lv_has ls 2 [(0, .ref (ad 0)), (1, .int p1)] := hl
  refine lv_aload_n hx hb dX8_worth_0 rfl (lv_at hl 0 rfl) ?_
  refine lv_aload_n hx hb dX8_worth_1 rfl (lv_at hl 0 rfl) ?_
  refine va_get (D := (dC, dI)) (ci := 8) (v := .ref (ad 23)) (C := RX8) (T := TX8) (N := 10) hx hb hts hi8 hown hK hP 0 rfl rfl 3 (by decide) hk0 (fun _ h9 => h9) rfl dX8_worth_2 ?_
  refine lv_iload_n hx hb dX8_worth_5 rfl (lv_at hl 1 rfl) ?_
  refine z_fini (w' := fun (u1 : Unit) => [(ad 0, .inr (8, xf0 ad)), (ad 23, .inr (5, xf23 ad))]) (va_runV (As := [.ref (ad 23), .int p1]) (rest := []) ⟨hx, hb, hml, hown, hts⟩ (c_X8_isPlaced_40 l dC dI cB cI cJ cZ cP cQ ad H.size p1) (cwV 2 hts gX8_worth_X8_isPlaced rfl rfl rfl (by decide +kernel) ⟨Nat.le_of_ble_eq_true rfl, Nat.le_of_ble_eq_true rfl⟩) (z_pV (ci := 8) hK hP hD zX_nil [0, 1] (by decide) rfl rfl 0 rfl) rfl rfl hl.1 rfl (lv_room (Nat.le_of_ble_eq_true rfl)) dX8_worth_6 ⟨Nat.le_of_ble_eq_true rfl, Nat.le_of_ble_eq_true rfl⟩) hP hD hS hA [0, 1] [] [0, 1] rfl rfl (by decide) (by decide) (fun _ => rfl) (by decide) (fun r2 u1 H locs hp3 hP hD hS => ?_)
  have hP : va_P (dC, dI) vwCl [(ad 0, .inr (8, xf0 ad)), (ad 23, .inr (5, xf23 ad))] H := hP
  have hD : va_D A [(ad 0, .inr (8, xf0 ad)), (ad 23, .inr (5, xf23 ad))] := hD
  refine W.widen (k := 0) (n := 0) (by decide) (by decide) ?_
  rcases hp3 with ⟨rfl, f4⟩ | ⟨rfl, f5⟩
  · refine lv_if_eq (tgt := 24) hx hb dX8_worth_9 (by decide) (fun _ => ?_) (fun c => absurd (by decide) c)
    refine lv_ldc hx hb hown hk1 dX8_worth_24 ?_
    have hP9 := hP.sub (ws' := []) [] rfl
    have hD9 := hD.sub (ws' := []) [] (by decide) rfl
    exact z_iret () hx hb hr hlocks hK hP9 hD9 hS hAe hQ rfl (Or.inl (⟨rfl, f4⟩)) dX8_worth_26
  · refine lv_if_eq (tgt := 24) hx hb dX8_worth_9 (by decide) (fun _ => ?_) (fun c => absurd (by decide) c)
    refine lv_ldc hx hb hown hk1 dX8_worth_24 ?_
    have hP9 := hP.sub (ws' := []) [] rfl
    have hD9 := hD.sub (ws' := []) [] (by decide) rfl
    exact z_iret () hx hb hr hlocks hK hP9 hD9 hS hAe hQ rfl (Or.inr ⟨rfl, f5⟩) dX8_worth_26
set_option maxHeartbeats 4000000 in
set_option maxRecDepth 100000 in
theorem c_X8_within_43 (l : Launch) (dC : Nat → ClassId) (dI : Nat → Nat → Nat) (cB cI cJ cZ cP cQ : ClassId) (sz : Nat) (p0 : Int32) : Met l yX8_within wsX8_within ({ frames := 0, cells := 0, slots := 0, locals := 0 } : Room) (zPc [.int p0, .int 0, .int 12] (dC, dI) (zT cB cI cJ cZ cP cQ) [] sz [] []) (va_Qi (fun r _ => (fun r => (r = 0 ∧ p0.toInt < 0) ∨ (r = 0 ∧ 0 ≤ p0.toInt ∧ 12 < p0.toInt) ∨ (r = 1 ∧ 0 ≤ p0.toInt ∧ p0.toInt ≤ 12)) r) (zB (dC, dI) (zT cB cI cJ cZ cP cQ) (fun _ : Unit => []) [] sz) (va_A [] sz)) 0 0 (va_A [] sz) := by
  refine z_enter (cc := cX8_within) (maxL := 3) (ret := (some .boolean)) (by decide) rfl (Nat.le_of_ble_eq_true rfl) ?_
  intro p e s m below meth c A ls Q H locs hx hb hr hml hown hts hlocks hin hK hP hD hA hX hS hAe hQ hl
  have hown : s.vm.findClass RX8 = some m.cls := hown
  have hl : lv_has ls 3 [(0, .int p0), (1, .int 0), (2, .int 12)] := hl
  refine lv_iload_n hx hb dX8_within_0 rfl (lv_at hl 0 rfl) ?_
  refine lv_iload_n hx hb dX8_within_1 rfl (lv_at hl 1 rfl) ?_
  refine lv_icmp_lt (tgt := 14) hx hb dX8_within_2 (by decide) (fun c_1 => ?_) (fun c_1 => ?_)
  · have f2 : p0.toInt < 0 := z_lt rfl (by decide) c_1
    refine lv_iconst (v := 0) hx hb dX8_within_14 (by decide) ?_
    exact z_zret () hx hb hr hlocks hK hP hD hS hAe hQ rfl (Or.inl (⟨rfl, f2⟩)) (by decide) dX8_within_15
  · have f2 : 0 ≤ p0.toInt := z_nlt rfl (by decide) c_1
    refine lv_iload_n hx hb dX8_within_5 rfl (lv_at hl 0 rfl) ?_
    refine lv_iload_n hx hb dX8_within_6 rfl (lv_at hl 2 rfl) ?_
    refine lv_icmp_gt (tgt := 14) hx hb dX8_within_7 (by decide) (fun c_3 => ?_) (fun c_3 => ?_)
    · have f4 : 12 < p0.toInt := z_lt (by decide) rfl c_3
      refine lv_iconst (v := 0) hx hb dX8_within_14 (by decide) ?_
      exact z_zret () hx hb hr hlocks hK hP hD hS hAe hQ rfl (Or.inr (Or.inl ⟨rfl, f2, f4⟩)) (by decide) dX8_within_15
    · have f4 : p0.toInt ≤ 12 := z_nlt (by decide) rfl c_3
      refine lv_iconst (v := 1) hx hb dX8_within_10 (by decide) ?_
      refine lv_goto (tgt := 15) hx hb dX8_within_11 (by decide) ?_
      exact z_zret () hx hb hr hlocks hK hP hD hS hAe hQ rfl (Or.inr (Or.inr ⟨rfl, f2, f4⟩)) (by decide) dX8_within_15
set_option maxHeartbeats 4000000 in
set_option maxRecDepth 100000 in
theorem c_X8_within_44 (l : Launch) (dC : Nat → ClassId) (dI : Nat → Nat → Nat) (cB cI cJ cZ cP cQ : ClassId) (sz : Nat) (p0 : Int32) : Met l yX8_within wsX8_within ({ frames := 0, cells := 0, slots := 0, locals := 0 } : Room) (zPc [.int p0, .int 0, .int 3] (dC, dI) (zT cB cI cJ cZ cP cQ) [] sz [] []) (va_Qi (fun r _ => (fun r => (r = 0 ∧ p0.toInt < 0) ∨ (r = 0 ∧ 0 ≤ p0.toInt ∧ 3 < p0.toInt) ∨ (r = 1 ∧ 0 ≤ p0.toInt ∧ p0.toInt ≤ 3)) r) (zB (dC, dI) (zT cB cI cJ cZ cP cQ) (fun _ : Unit => []) [] sz) (va_A [] sz)) 0 0 (va_A [] sz) := by
  refine z_enter (cc := cX8_within) (maxL := 3) (ret := (some .boolean)) (by decide) rfl (Nat.le_of_ble_eq_true rfl) ?_
  intro p e s m below meth c A ls Q H locs hx hb hr hml hown hts hlocks hin hK hP hD hA hX hS hAe hQ hl
  have hown : s.vm.findClass RX8 = some m.cls := hown
  have hl : lv_has ls 3 [(0, .int p0), (1, .int 0), (2, .int 3)] := hl
  refine lv_iload_n hx hb dX8_within_0 rfl (lv_at hl 0 rfl) ?_
  refine lv_iload_n hx hb dX8_within_1 rfl (lv_at hl 1 rfl) ?_
  refine lv_icmp_lt (tgt := 14) hx hb dX8_within_2 (by decide) (fun c_1 => ?_) (fun c_1 => ?_)
  · have f2 : p0.toInt < 0 := z_lt rfl (by decide) c_1
    refine lv_iconst (v := 0) hx hb dX8_within_14 (by decide) ?_
    exact z_zret () hx hb hr hlocks hK hP hD hS hAe hQ rfl (Or.inl (⟨rfl, f2⟩)) (by decide) dX8_within_15
  · have f2 : 0 ≤ p0.toInt := z_nlt rfl (by decide) c_1
    refine lv_iload_n hx hb dX8_within_5 rfl (lv_at hl 0 rfl) ?_
    refine lv_iload_n hx hb dX8_within_6 rfl (lv_at hl 2 rfl) ?_
    refine lv_icmp_gt (tgt := 14) hx hb dX8_within_7 (by decide) (fun c_3 => ?_) (fun c_3 => ?_)
    · have f4 : 3 < p0.toInt := z_lt (by decide) rfl c_3
      refine lv_iconst (v := 0) hx hb dX8_within_14 (by decide) ?_
      exact z_zret () hx hb hr hlocks hK hP hD hS hAe hQ rfl (Or.inr (Or.inl ⟨rfl, f2, f4⟩)) (by decide) dX8_within_15
    · have f4 : p0.toInt ≤ 3 := z_nlt (by decide) rfl c_3
      refine lv_iconst (v := 1) hx hb dX8_within_10 (by decide) ?_
      refine lv_goto (tgt := 15) hx hb dX8_within_11 (by decide) ?_
      exact z_zret () hx hb hr hlocks hK hP hD hS hAe hQ rfl (Or.inr (Or.inr ⟨rfl, f2, f4⟩)) (by decide) dX8_within_15
set_option maxHeartbeats 4000000 in
set_option maxRecDepth 100000 in
theorem c_X8_month_44 (l : Launch) (dC : Nat → ClassId) (dI : Nat → Nat → Nat) (cB cI cJ cZ cP cQ : ClassId) (ad : Nat → Nat) (sz : Nat) (p1 : Int32) (p2 : Int32) : Met l yX8_month wsX8_month ({ frames := 1, cells := 0, slots := 0, locals := 22 } : Room) (zPc [.ref (ad 0), .int p1, .int p2] (dC, dI) (zT cB cI cJ cZ cP cQ) [(ad 0, .inr (8, xf0 ad)), (ad 23, .inr (5, xf23 ad))] sz [] []) (va_Qi (fun r _ => (fun r => (r = (-1) ∧ p1.toInt < 0) ∨ (r = (-1) ∧ 0 ≤ p1.toInt ∧ 12 < p1.toInt) ∨ (r = (-1) ∧ 0 ≤ p1.toInt ∧ p1.toInt ≤ 12 ∧ p2.toInt < 0) ∨ (r = (-1) ∧ 0 ≤ p1.toInt ∧ p1.toInt ≤ 12 ∧ 0 ≤ p2.toInt ∧ 3 < p2.toInt) ∨ (r = 0 ∧ 0 ≤ p1.toInt ∧ p1.toInt ≤ 12 ∧ 0 ≤ p2.toInt ∧ p2.toInt ≤ 3)) r) (zB (dC, dI) (zT cB cI cJ cZ cP cQ) (fun _ : Unit => []) [(ad 0, .inr (8, xf0 ad)), (ad 23, .inr (5, xf23 ad))] sz) (va_A [(ad 0, .inr (8, xf0 ad)), (ad 23, .inr (5, xf23 ad))] sz)) 0 0 (va_A [(ad 0, .inr (8, xf0 ad)), (ad 23, .inr (5, xf23 ad))] sz) := by
  refine z_enter (cc := cX8_month) (maxL := 5) (ret := (some .int)) (by decide) rfl (Nat.le_of_ble_eq_true rfl) ?_
  intro p e s m below meth c A ls Q H locs hx hb hr hml hown hts hlocks hin hK hP hD hA hX hS hAe hQ hl
  have hown : s.vm.findClass RX8 = some m.cls := hown
  have hi5 : ∀ w ∈ wsX50, w ∈ wsX8_month := fun w h => List.mem_cons_of_mem _ (List.mem_append_left _ (List.mem_append_right _ h))
  have hi8 : ∀ w ∈ wsX80, w ∈ wsX8_month := fun w h => List.mem_cons_of_mem _ (List.mem_append_left _ (List.mem_append_left _ (List.mem_append_right _ h)))
  have hk0 := hts (.fieldLink RX8 29 "MonthPush" "all" "LMonthPush$Sheets;") (by decide +kernel)
  have hk1 := hts (.fieldLink RX8 127 "MonthPush$Sheets" "n" "I") (by decide +kernel)
  have hl : lv_has ls 5 [(0, .ref (ad 0)), (1, .int p1), (2, .int p2)] := hl
  refine lv_iload_n hx hb dX8_month_0 rfl (lv_at hl 1 rfl) ?_
  refine lv_iconst (v := 0) hx hb dX8_month_1 (by decide) ?_
  refine lv_bipush (v := 12) hx hb dX8_month_2 (by decide) ?_
  refine z_fini (w' := fun (u1 : Unit) => [(ad 0, .inr (8, xf0 ad)), (ad 23, .inr (5, xf23 ad))]) (va_runS (As := [.int p1, .int 0, .int 12]) (rest := []) ⟨hx, hb, hml, hown, hts⟩ (c_X8_within_43 l dC dI cB cI cJ cZ cP cQ H.size p1) (va_cwS 3 hts gX8_month_X8_within rfl rfl rfl (by decide +kernel) ⟨Nat.le_of_ble_eq_true rfl, Nat.le_of_ble_eq_true rfl⟩) (z_pS hK hP hD zX_nil [] (by decide) rfl) rfl rfl hl.1 rfl (lv_room (Nat.le_of_ble_eq_true rfl)) dX8_month_4 ⟨Nat.le_of_ble_eq_true rfl, Nat.le_of_ble_eq_true rfl⟩) hP hD hS hA [] [0, 1] [0, 1] rfl rfl (by decide) (by decide) (fun _ => rfl) (by decide) (fun r2 u1 H locs hp3 hP hD hS => ?_)
  have hP : va_P (dC, dI) vwCl [(ad 0, .inr (8, xf0 ad)), (ad 23, .inr (5, xf23 ad))] H := hP
  have hD : va_D A [(ad 0, .inr (8, xf0 ad)), (ad 23, .inr (5, xf23 ad))] := hD
  refine W.widen (k := 0) (n := 0) (by decide) (by decide) ?_
  rcases hp3 with ⟨rfl, f4⟩ | ⟨rfl, f5, f6⟩ | ⟨rfl, f7, f8⟩
  · refine lv_if_eq (tgt := 19) hx hb dX8_month_7 (by decide) (fun _ => ?_) (fun c => absurd (by decide) c)
    refine lv_iconst (v := (-1)) hx hb dX8_month_19 (by decide) ?_
    have hP9 := hP.sub (ws' := []) [] rfl
    have hD9 := hD.sub (ws' := []) [] (by decide) rfl
    exact z_iret () hx hb hr hlocks hK hP9 hD9 hS hAe hQ rfl (Or.inl (⟨rfl, f4⟩)) dX8_month_20
  · refine lv_if_eq (tgt := 19) hx hb dX8_month_7 (by decide) (fun _ => ?_) (fun c => absurd (by decide) c)
    refine lv_iconst (v := (-1)) hx hb dX8_month_19 (by decide) ?_
    have hP9 := hP.sub (ws' := []) [] rfl
    have hD9 := hD.sub (ws' := []) [] (by decide) rfl
    exact z_iret () hx hb hr hlocks hK hP9 hD9 hS hAe hQ rfl (Or.inr (Or.inl ⟨rfl, f5, f6⟩)) dX8_month_20
  · refine lv_if_eq (tgt := 19) hx hb dX8_month_7 (by decide) (fun c => absurd c (by decide)) (fun _ => ?_)
    refine lv_iload_n hx hb dX8_month_10 rfl (lv_at hl 2 rfl) ?_
    refine lv_iconst (v := 0) hx hb dX8_month_11 (by decide) ?_
    refine lv_iconst (v := 3) hx hb dX8_month_12 (by decide) ?_
    refine z_fini (w' := fun (u9 : Unit) => [(ad 0, .inr (8, xf0 ad)), (ad 23, .inr (5, xf23 ad))]) (va_runS (As := [.int p2, .int 0, .int 3]) (rest := []) ⟨hx, hb, hml, hown, hts⟩ (c_X8_within_44 l dC dI cB cI cJ cZ cP cQ H.size p2) (va_cwS 3 hts gX8_month_X8_within rfl rfl rfl (by decide +kernel) ⟨Nat.le_of_ble_eq_true rfl, Nat.le_of_ble_eq_true rfl⟩) (z_pS hK hP hD zX_nil [] (by decide) rfl) rfl rfl hl.1 rfl (lv_room (Nat.le_of_ble_eq_true rfl)) dX8_month_13 ⟨Nat.le_of_ble_eq_true rfl, Nat.le_of_ble_eq_true rfl⟩) hP hD hS hA [] [0, 1] [0, 1] rfl rfl (by decide) (by decide) (fun _ => rfl) (by decide) (fun r10 u9 H locs hp11 hP hD hS => ?_)
    have hP : va_P (dC, dI) vwCl [(ad 0, .inr (8, xf0 ad)), (ad 23, .inr (5, xf23 ad))] H := hP
    have hD : va_D A [(ad 0, .inr (8, xf0 ad)), (ad 23, .inr (5, xf23 ad))] := hD
    refine W.widen (k := 0) (n := 0) (by decide) (by decide) ?_
    rcases hp11 with ⟨rfl, f12⟩ | ⟨rfl, f13, f14⟩ | ⟨rfl, f15, f16⟩
    · refine lv_if_ne (tgt := 21) hx hb dX8_month_16 (by decide) (fun c => absurd (by decide) c) (fun _ => ?_)
      refine lv_iconst (v := (-1)) hx hb dX8_month_19 (by decide) ?_
      have hP9 := hP.sub (ws' := []) [] rfl
      have hD9 := hD.sub (ws' := []) [] (by decide) rfl
      exact z_iret () hx hb hr hlocks hK hP9 hD9 hS hAe hQ rfl (Or.inr (Or.inr (Or.inl ⟨rfl, f7, f8, f12⟩))) dX8_month_20
    · refine lv_if_ne (tgt := 21) hx hb dX8_month_16 (by decide) (fun c => absurd (by decide) c) (fun _ => ?_)
      refine lv_iconst (v := (-1)) hx hb dX8_month_19 (by decide) ?_
      have hP9 := hP.sub (ws' := []) [] rfl
      have hD9 := hD.sub (ws' := []) [] (by decide) rfl
      exact z_iret () hx hb hr hlocks hK hP9 hD9 hS hAe hQ rfl (Or.inr (Or.inr (Or.inr (Or.inl ⟨rfl, f7, f8, f13, f14⟩)))) dX8_month_20
    · refine lv_if_ne (tgt := 21) hx hb dX8_month_16 (by decide) (fun _ => ?_) (fun c => absurd c (by decide))
      refine lv_iconst (v := 0) hx hb dX8_month_21 (by decide) ?_
      refine lv_istore_n (lv' := [(3, .int 0), (0, .ref (ad 0)), (1, .int p1), (2, .int p2)]) hx hb dX8_month_22 rfl hl (by decide) rfl (fun ls hl => ?_)
      refine lv_iconst (v := 0) hx hb dX8_month_23 (by decide) ?_
      refine lv_istore (lv' := [(4, .int 0), (3, .int 0), (0, .ref (ad 0)), (1, .int p1), (2, .int p2)]) hx hb dX8_month_24 hl (by decide) rfl (fun ls hl => ?_)
      refine lv_iload hx hb dX8_month_26 (lv_at hl 0 rfl) ?_
      refine lv_aload_n hx hb dX8_month_28 rfl (lv_at hl 2 rfl) ?_
      refine va_get (D := (dC, dI)) (ci := 8) (v := .ref (ad 23)) (C := RX8) (T := TX8) (N := 10) hx hb hts hi8 hown hK hP 0 rfl rfl 3 (by decide) hk0 (fun _ h9 => h9) rfl dX8_month_29 ?_
      refine va_get (D := (dC, dI)) (ci := 5) (v := .int 0) (C := RX5) (T := TX5) (N := 7) hx hb hts hi5 hown hK hP 1 rfl rfl 0 (by decide) hk1 (fun _ h9 => h9) rfl dX8_month_32 ?_
      refine lv_icmp_ge (tgt := 72) hx hb dX8_month_35 (by decide) (fun _ => ?_) (fun c => absurd (by decide) c)
      refine lv_iload_n hx hb dX8_month_72 rfl (lv_at hl 1 rfl) ?_
      have hP9 := hP.sub (ws' := []) [] rfl
      have hD9 := hD.sub (ws' := []) [] (by decide) rfl
      exact z_iret () hx hb hr hlocks hK hP9 hD9 hS hAe hQ rfl (Or.inr (Or.inr (Or.inr (Or.inr ⟨rfl, f7, f8, f15, f16⟩)))) dX8_month_73
set_option maxHeartbeats 4000000 in
set_option maxRecDepth 100000 in
theorem c_X6_clear_47 (l : Launch) (dC : Nat → ClassId) (dI : Nat → Nat → Nat) (cB cI cJ cZ cP cQ : ClassId) (ad : Nat → Nat) (sz : Nat) : Met l yX6_clear wsX6_clear ({ frames := 0, cells := 0, slots := 0, locals := 0 } : Room) (zPc [.ref (ad 38)] (dC, dI) (zT cB cI cJ cZ cP cQ) [(ad 38, .inr (6, xf38 ad))] sz [] []) (va_Qv (fun _ => True) (zB (dC, dI) (zT cB cI cJ cZ cP cQ) (fun _ : Unit => [(ad 38, .inr (6, xf38 ad))]) [(ad 38, .inr (6, xf38 ad))] sz) (va_A [(ad 38, .inr (6, xf38 ad))] sz)) 0 0 (va_A [(ad 38, .inr (6, xf38 ad))] sz) := by
  refine z_enter (cc := cX6_clear) (maxL := 1) (ret := none) (by decide) rfl (Nat.le_of_ble_eq_true rfl) ?_
  intro p e s m below meth c A ls Q H locs hx hb hr hml hown hts hlocks hin hK hP hD hA hX hS hAe hQ hl
  have hown : s.vm.findClass RX6 = some m.cls := hown
  have hi6 : ∀ w ∈ wsX60, w ∈ wsX6_clear := fun w h => List.mem_cons_of_mem _ (List.mem_append_right _ h)
  have hk0 := hts (.fieldLink RX6 9 "MonthPush$Split" "n" "J") (by decide +kernel)
  have hk1 := hts (.fieldLink RX6 15 "MonthPush$Split" "school" "J") (by decide +kernel)
  have hk2 := hts (.fieldLink RX6 18 "MonthPush$Split" "wage" "J") (by decide +kernel)
  have hk3 := hts (.fieldLink RX6 21 "MonthPush$Split" "gift" "J") (by decide +kernel)
  have hk4 := hts (.fieldLink RX6 24 "MonthPush$Split" "others" "J") (by decide +kernel)
  have hk5 := hts (.fieldLink RX6 27 "MonthPush$Split" "otherSchool" "J") (by decide +kernel)
  have hk6 := hts (.fieldLink RX6 30 "MonthPush$Split" "otherWage" "J") (by decide +kernel)
  have hk7 := hts (.fieldLink RX6 33 "MonthPush$Split" "otherGift" "J") (by decide +kernel)
  have hk8 := hts (.fieldLink RX6 36 "MonthPush$Split" "schoolSchool" "J") (by decide +kernel)
  have hk9 := hts (.fieldLink RX6 39 "MonthPush$Split" "schoolWage" "J") (by decide +kernel)
  have hk10 := hts (.fieldLink RX6 42 "MonthPush$Split" "wageWage" "J") (by decide +kernel)
  have hl : lv_has ls 1 [(0, .ref (ad 38))] := hl
  refine lv_aload_n hx hb dX6_clear_0 rfl (lv_at hl 0 rfl) ?_
  refine lv_lconst (v := 0) hx hb dX6_clear_1 (by decide) ?_
  refine z_put0 (D := (dC, dI)) (ci := 6) (v := .long 0) (ty := .long) (C := RX6) (T := TX6) (N := 11) hx hb hts hi6 tyX6 tyX6_ok nmX6 hown hK hP hD hS 0 rfl rfl 0 (by decide) hk0 (fun _ h9 => h9) rfl (by decide +kernel) rfl rfl rfl dX6_clear_2 (fun H locs hP hS => ?_)
  refine lv_aload_n hx hb dX6_clear_5 rfl (lv_at hl 0 rfl) ?_
  refine lv_lconst (v := 0) hx hb dX6_clear_6 (by decide) ?_
  refine z_put0 (D := (dC, dI)) (ci := 6) (v := .long 0) (ty := .long) (C := RX6) (T := TX6) (N := 11) hx hb hts hi6 tyX6 tyX6_ok nmX6 hown hK hP hD hS 0 rfl rfl 1 (by decide) hk1 (fun _ h9 => h9) rfl (by decide +kernel) rfl rfl rfl dX6_clear_7 (fun H locs hP hS => ?_)
  refine lv_aload_n hx hb dX6_clear_10 rfl (lv_at hl 0 rfl) ?_
  refine lv_lconst (v := 0) hx hb dX6_clear_11 (by decide) ?_
  refine z_put0 (D := (dC, dI)) (ci := 6) (v := .long 0) (ty := .long) (C := RX6) (T := TX6) (N := 11) hx hb hts hi6 tyX6 tyX6_ok nmX6 hown hK hP hD hS 0 rfl rfl 2 (by decide) hk2 (fun _ h9 => h9) rfl (by decide +kernel) rfl rfl rfl dX6_clear_12 (fun H locs hP hS => ?_)
  refine lv_aload_n hx hb dX6_clear_15 rfl (lv_at hl 0 rfl) ?_
  refine lv_lconst (v := 0) hx hb dX6_clear_16 (by decide) ?_
  refine z_put0 (D := (dC, dI)) (ci := 6) (v := .long 0) (ty := .long) (C := RX6) (T := TX6) (N := 11) hx hb hts hi6 tyX6 tyX6_ok nmX6 hown hK hP hD hS 0 rfl rfl 3 (by decide) hk3 (fun _ h9 => h9) rfl (by decide +kernel) rfl rfl rfl dX6_clear_17 (fun H locs hP hS => ?_)
  refine lv_aload_n hx hb dX6_clear_20 rfl (lv_at hl 0 rfl) ?_
  refine lv_lconst (v := 0) hx hb dX6_clear_21 (by decide) ?_
  refine z_put0 (D := (dC, dI)) (ci := 6) (v := .long 0) (ty := .long) (C := RX6) (T := TX6) (N := 11) hx hb hts hi6 tyX6 tyX6_ok nmX6 hown hK hP hD hS 0 rfl rfl 4 (by decide) hk4 (fun _ h9 => h9) rfl (by decide +kernel) rfl rfl rfl dX6_clear_22 (fun H locs hP hS => ?_)
  refine lv_aload_n hx hb dX6_clear_25 rfl (lv_at hl 0 rfl) ?_
  refine lv_lconst (v := 0) hx hb dX6_clear_26 (by decide) ?_
  refine z_put0 (D := (dC, dI)) (ci := 6) (v := .long 0) (ty := .long) (C := RX6) (T := TX6) (N := 11) hx hb hts hi6 tyX6 tyX6_ok nmX6 hown hK hP hD hS 0 rfl rfl 5 (by decide) hk5 (fun _ h9 => h9) rfl (by decide +kernel) rfl rfl rfl dX6_clear_27 (fun H locs hP hS => ?_)
  refine lv_aload_n hx hb dX6_clear_30 rfl (lv_at hl 0 rfl) ?_
  refine lv_lconst (v := 0) hx hb dX6_clear_31 (by decide) ?_
  refine z_put0 (D := (dC, dI)) (ci := 6) (v := .long 0) (ty := .long) (C := RX6) (T := TX6) (N := 11) hx hb hts hi6 tyX6 tyX6_ok nmX6 hown hK hP hD hS 0 rfl rfl 6 (by decide) hk6 (fun _ h9 => h9) rfl (by decide +kernel) rfl rfl rfl dX6_clear_32 (fun H locs hP hS => ?_)
  refine lv_aload_n hx hb dX6_clear_35 rfl (lv_at hl 0 rfl) ?_
  refine lv_lconst (v := 0) hx hb dX6_clear_36 (by decide) ?_
  refine z_put0 (D := (dC, dI)) (ci := 6) (v := .long 0) (ty := .long) (C := RX6) (T := TX6) (N := 11) hx hb hts hi6 tyX6 tyX6_ok nmX6 hown hK hP hD hS 0 rfl rfl 7 (by decide) hk7 (fun _ h9 => h9) rfl (by decide +kernel) rfl rfl rfl dX6_clear_37 (fun H locs hP hS => ?_)
  refine lv_aload_n hx hb dX6_clear_40 rfl (lv_at hl 0 rfl) ?_
  refine lv_lconst (v := 0) hx hb dX6_clear_41 (by decide) ?_
  refine z_put0 (D := (dC, dI)) (ci := 6) (v := .long 0) (ty := .long) (C := RX6) (T := TX6) (N := 11) hx hb hts hi6 tyX6 tyX6_ok nmX6 hown hK hP hD hS 0 rfl rfl 8 (by decide) hk8 (fun _ h9 => h9) rfl (by decide +kernel) rfl rfl rfl dX6_clear_42 (fun H locs hP hS => ?_)
  refine lv_aload_n hx hb dX6_clear_45 rfl (lv_at hl 0 rfl) ?_
  refine lv_lconst (v := 0) hx hb dX6_clear_46 (by decide) ?_
  refine z_put0 (D := (dC, dI)) (ci := 6) (v := .long 0) (ty := .long) (C := RX6) (T := TX6) (N := 11) hx hb hts hi6 tyX6 tyX6_ok nmX6 hown hK hP hD hS 0 rfl rfl 9 (by decide) hk9 (fun _ h9 => h9) rfl (by decide +kernel) rfl rfl rfl dX6_clear_47 (fun H locs hP hS => ?_)
  refine lv_aload_n hx hb dX6_clear_50 rfl (lv_at hl 0 rfl) ?_
  refine lv_lconst (v := 0) hx hb dX6_clear_51 (by decide) ?_
  refine z_put0 (D := (dC, dI)) (ci := 6) (v := .long 0) (ty := .long) (C := RX6) (T := TX6) (N := 11) hx hb hts hi6 tyX6 tyX6_ok nmX6 hown hK hP hD hS 0 rfl rfl 10 (by decide) hk10 (fun _ h9 => h9) rfl (by decide +kernel) rfl rfl rfl dX6_clear_52 (fun H locs hP hS => ?_)
  exact z_vret () hx hb hr hlocks hK hP hD hS hAe hQ rfl trivial dX6_clear_55
set_option maxHeartbeats 4000000 in
set_option maxRecDepth 100000 in
theorem c_X8_thousandths_48 (l : Launch) (dC : Nat → ClassId) (dI : Nat → Nat → Nat) (cB cI cJ cZ cP cQ : ClassId) (sz : Nat) : Met l yX8_thousandths wsX8_thousandths ({ frames := 0, cells := 0, slots := 0, locals := 0 } : Room) (zPc [.long 0, .long 0] (dC, dI) (zT cB cI cJ cZ cP cQ) [] sz [] []) (va_Ql (fun r _ => (fun r => r = (-9000000000000000000)) r) (zB (dC, dI) (zT cB cI cJ cZ cP cQ) (fun _ : Unit => []) [] sz) (va_A [] sz)) 0 0 (va_A [] sz) := by
  refine z_enter (cc := cX8_thousandths) (maxL := 4) (ret := (some .long)) (by decide) rfl (Nat.le_of_ble_eq_true rfl) ?_
  intro p e s m below meth c A ls Q H locs hx hb hr hml hown hts hlocks hin hK hP hD hA hX hS hAe hQ hl
  have hown : s.vm.findClass RX8 = some m.cls := hown
  have hk0 := hts (.constantLong RX8 282 (-9000000000000000000)) (by decide +kernel)
  have hl : lv_has ls 4 [(0, .long 0), (2, .long 0)] := hl
  refine lv_lload_n hx hb dX8_thousandths_0 rfl (lv_at hl 1 rfl) ?_
  refine lv_lconst (v := 0) hx hb dX8_thousandths_1 (by decide) ?_
  refine W.lcmp hx hb dX8_thousandths_2 ?_
  refine z_topi (y := 0) (by decide +kernel) ?_
  refine lv_if_ne (tgt := 12) hx hb dX8_thousandths_3 (by decide) (fun c => absurd (by decide) c) (fun _ => ?_)
  refine lv_ldc2 hx hb hown hk0 dX8_thousandths_6 ?_
  refine lv_goto (tgt := 19) hx hb dX8_thousandths_9 (by decide) ?_
  exact z_lret () hx hb hr hlocks hK hP hD hS hAe hQ rfl rfl dX8_thousandths_19
set_option maxHeartbeats 4000000 in
set_option maxRecDepth 100000 in
theorem c_X8_plainOf_48 (l : Launch) (dC : Nat → ClassId) (dI : Nat → Nat → Nat) (cB cI cJ cZ cP cQ : ClassId) (ad : Nat → Nat) (sz : Nat) : Met l yX8_plainOf wsX8_plainOf ({ frames := 1, cells := 0, slots := 0, locals := 23 } : Room) (zPc [.ref (ad 0)] (dC, dI) (zT cB cI cJ cZ cP cQ) [(ad 0, .inr (8, xf0 ad)), (ad 23, .inr (5, xf23 ad)), (ad 38, .inr (6, xf38 ad))] sz [] []) (va_Ql (fun r _ => (fun r => r = (-9000000000000000000)) r) (zB (dC, dI) (zT cB cI cJ cZ cP cQ) (fun _ : Unit => [(ad 0, .inr (8, xf0 ad)), (ad 23, .inr (5, xf23 ad)), (ad 38, .inr (6, xf38 ad))]) [(ad 0, .inr (8, xf0 ad)), (ad 23, .inr (5, xf23 ad)), (ad 38, .inr (6, xf38 ad))] sz) (va_A [(ad 0, .inr (8, xf0 ad)), (ad 23, .inr (5, xf23 ad)), (ad 38, .inr (6, xf38 ad))] sz)) 0 0 (va_A [(ad 0, .inr (8, xf0 ad)), (ad 23, .inr (5, xf23 ad)), (ad 38, .inr (6, xf38 ad))] sz) := by
  refine z_enter (cc := cX8_plainOf) (maxL := 7) (ret := (some .long)) (by decide) rfl (Nat.le_of_ble_eq_true rfl) ?_
  intro p e s m below meth c A ls Q H locs hx hb hr hml hown hts hlocks hin hK hP hD hA hX hS hAe hQ hl
  have hown : s.vm.findClass RX8 = some m.cls := hown
  have hi5 : ∀ w ∈ wsX50, w ∈ wsX8_plainOf := fun w h => List.mem_cons_of_mem _ (List.mem_append_left _ (List.mem_append_right _ h))
  have hi6 : ∀ w ∈ wsX60, w ∈ wsX8_plainOf := fun w h => List.mem_cons_of_mem _ (List.mem_append_right _ h)
  have hi8 : ∀ w ∈ wsX80, w ∈ wsX8_plainOf := fun w h => List.mem_cons_of_mem _ (List.mem_append_left _ (List.mem_append_left _ (List.mem_append_right _ h)))
  have hk0 := hts (.fieldLink RX8 46 "MonthPush" "split" "LMonthPush$Split;") (by decide +kernel)
  have hk1 := hts (.fieldLink RX8 29 "MonthPush" "all" "LMonthPush$Sheets;") (by decide +kernel)
  have hk2 := hts (.fieldLink RX8 127 "MonthPush$Sheets" "n" "I") (by decide +kernel)
  have hk3 := hts (.fieldLink RX8 236 "MonthPush$Split" "n" "J") (by decide +kernel)
  have hk4 := hts (.fieldLink RX8 239 "MonthPush$Split" "schoolWage" "J") (by decide +kernel)
  have hk5 := hts (.fieldLink RX8 242 "MonthPush$Split" "school" "J") (by decide +kernel)
  have hk6 := hts (.fieldLink RX8 244 "MonthPush$Split" "wage" "J") (by decide +kernel)
  have hk7 := hts (.fieldLink RX8 246 "MonthPush$Split" "schoolSchool" "J") (by decide +kernel)
  have hl : lv_has ls 7 [(0, .ref (ad 0))] := hl
  refine lv_aload_n hx hb dX8_plainOf_0 rfl (lv_at hl 0 rfl) ?_
  refine va_get (D := (dC, dI)) (ci := 8) (v := .ref (ad 38)) (C := RX8) (T := TX8) (N := 10) hx hb hts hi8 hown hK hP 0 rfl rfl 6 (by decide) hk0 (fun _ h9 => h9) rfl dX8_plainOf_1 ?_
  refine z_finv (w' := fun (u1 : Unit) => [(ad 0, .inr (8, xf0 ad)), (ad 23, .inr (5, xf23 ad)), (ad 38, .inr (6, xf38 ad))]) (va_runV (As := []) (rest := []) ⟨hx, hb, hml, hown, hts⟩ (c_X6_clear_47 l dC dI cB cI cJ cZ cP cQ ad H.size) (cwV 0 hts gX8_plainOf_X6_clear rfl rfl rfl (by decide +kernel) ⟨Nat.le_of_ble_eq_true rfl, Nat.le_of_ble_eq_true rfl⟩) (z_pV (ci := 6) hK hP hD zX_nil [2] (by decide) rfl rfl 2 rfl) rfl rfl hl.1 rfl (lv_room (Nat.le_of_ble_eq_true rfl)) dX8_plainOf_4 ⟨Nat.le_of_ble_eq_true rfl, Nat.le_of_ble_eq_true rfl⟩) hP hD hS hA [2] [0, 1] [0, 1, 2] rfl rfl (by decide) (by decide) (fun _ => rfl) (by decide) (fun u1 H locs hp3 hP hD hS => ?_)
  have hP : va_P (dC, dI) vwCl [(ad 0, .inr (8, xf0 ad)), (ad 23, .inr (5, xf23 ad)), (ad 38, .inr (6, xf38 ad))] H := hP
  have hD : va_D A [(ad 0, .inr (8, xf0 ad)), (ad 23, .inr (5, xf23 ad)), (ad 38, .inr (6, xf38 ad))] := hD
  refine W.widen (k := 0) (n := 0) (by decide) (by decide) ?_
  refine lv_iconst (v := 0) hx hb dX8_plainOf_7 (by decide) ?_
  refine lv_istore_n (lv' := [(1, .int 0), (0, .ref (ad 0))]) hx hb dX8_plainOf_8 rfl hl (by decide) rfl (fun ls hl => ?_)
  refine lv_iload_n hx hb dX8_plainOf_9 rfl (lv_at hl 0 rfl) ?_
  refine lv_aload_n hx hb dX8_plainOf_10 rfl (lv_at hl 1 rfl) ?_
  refine va_get (D := (dC, dI)) (ci := 8) (v := .ref (ad 23)) (C := RX8) (T := TX8) (N := 10) hx hb hts hi8 hown hK hP 0 rfl rfl 3 (by decide) hk1 (fun _ h9 => h9) rfl dX8_plainOf_11 ?_
  refine va_get (D := (dC, dI)) (ci := 5) (v := .int 0) (C := RX5) (T := TX5) (N := 7) hx hb hts hi5 hown hK hP 1 rfl rfl 0 (by decide) hk2 (fun _ h9 => h9) rfl dX8_plainOf_14 ?_
  refine lv_icmp_ge (tgt := 39) hx hb dX8_plainOf_17 (by decide) (fun _ => ?_) (fun c => absurd (by decide) c)
  refine lv_aload_n hx hb dX8_plainOf_39 rfl (lv_at hl 1 rfl) ?_
  refine va_get (D := (dC, dI)) (ci := 8) (v := .ref (ad 38)) (C := RX8) (T := TX8) (N := 10) hx hb hts hi8 hown hK hP 0 rfl rfl 6 (by decide) hk0 (fun _ h9 => h9) rfl dX8_plainOf_40 ?_
  refine va_get (D := (dC, dI)) (ci := 6) (v := .long 0) (C := RX6) (T := TX6) (N := 11) hx hb hts hi6 hown hK hP 2 rfl rfl 0 (by decide) hk3 (fun _ h9 => h9) rfl dX8_plainOf_43 ?_
  refine lv_lstore_n (lv' := [(1, .long 0), (0, .ref (ad 0))]) hx hb dX8_plainOf_46 rfl hl (by decide) rfl (fun ls hl => ?_)
  refine lv_lload_n hx hb dX8_plainOf_47 rfl (lv_at hl 0 rfl) ?_
  refine lv_aload_n hx hb dX8_plainOf_48 rfl (lv_at hl 1 rfl) ?_
  refine va_get (D := (dC, dI)) (ci := 8) (v := .ref (ad 38)) (C := RX8) (T := TX8) (N := 10) hx hb hts hi8 hown hK hP 0 rfl rfl 6 (by decide) hk0 (fun _ h9 => h9) rfl dX8_plainOf_49 ?_
  refine va_get (D := (dC, dI)) (ci := 6) (v := .long 0) (C := RX6) (T := TX6) (N := 11) hx hb hts hi6 hown hK hP 2 rfl rfl 9 (by decide) hk4 (fun _ h9 => h9) rfl dX8_plainOf_52 ?_
  refine lv_lmul hx hb dX8_plainOf_55 ?_
  refine z_topl (y := 0) (by decide +kernel) ?_
  refine lv_aload_n hx hb dX8_plainOf_56 rfl (lv_at hl 1 rfl) ?_
  refine va_get (D := (dC, dI)) (ci := 8) (v := .ref (ad 38)) (C := RX8) (T := TX8) (N := 10) hx hb hts hi8 hown hK hP 0 rfl rfl 6 (by decide) hk0 (fun _ h9 => h9) rfl dX8_plainOf_57 ?_
  refine va_get (D := (dC, dI)) (ci := 6) (v := .long 0) (C := RX6) (T := TX6) (N := 11) hx hb hts hi6 hown hK hP 2 rfl rfl 1 (by decide) hk5 (fun _ h9 => h9) rfl dX8_plainOf_60 ?_
  refine lv_aload_n hx hb dX8_plainOf_63 rfl (lv_at hl 1 rfl) ?_
  refine va_get (D := (dC, dI)) (ci := 8) (v := .ref (ad 38)) (C := RX8) (T := TX8) (N := 10) hx hb hts hi8 hown hK hP 0 rfl rfl 6 (by decide) hk0 (fun _ h9 => h9) rfl dX8_plainOf_64 ?_
  refine va_get (D := (dC, dI)) (ci := 6) (v := .long 0) (C := RX6) (T := TX6) (N := 11) hx hb hts hi6 hown hK hP 2 rfl rfl 2 (by decide) hk6 (fun _ h9 => h9) rfl dX8_plainOf_67 ?_
  refine lv_lmul hx hb dX8_plainOf_70 ?_
  refine z_topl (y := 0) (by decide +kernel) ?_
  refine lv_lsub hx hb dX8_plainOf_71 ?_
  refine z_topl (y := 0) (by decide +kernel) ?_
  refine lv_lstore_n (lv' := [(3, .long 0), (1, .long 0), (0, .ref (ad 0))]) hx hb dX8_plainOf_72 rfl hl (by decide) rfl (fun ls hl => ?_)
  refine lv_lload_n hx hb dX8_plainOf_73 rfl (lv_at hl 1 rfl) ?_
  refine lv_aload_n hx hb dX8_plainOf_74 rfl (lv_at hl 2 rfl) ?_
  refine va_get (D := (dC, dI)) (ci := 8) (v := .ref (ad 38)) (C := RX8) (T := TX8) (N := 10) hx hb hts hi8 hown hK hP 0 rfl rfl 6 (by decide) hk0 (fun _ h9 => h9) rfl dX8_plainOf_75 ?_
  refine va_get (D := (dC, dI)) (ci := 6) (v := .long 0) (C := RX6) (T := TX6) (N := 11) hx hb hts hi6 hown hK hP 2 rfl rfl 8 (by decide) hk7 (fun _ h9 => h9) rfl dX8_plainOf_78 ?_
  refine lv_lmul hx hb dX8_plainOf_81 ?_
  refine z_topl (y := 0) (by decide +kernel) ?_
  refine lv_aload_n hx hb dX8_plainOf_82 rfl (lv_at hl 2 rfl) ?_
  refine va_get (D := (dC, dI)) (ci := 8) (v := .ref (ad 38)) (C := RX8) (T := TX8) (N := 10) hx hb hts hi8 hown hK hP 0 rfl rfl 6 (by decide) hk0 (fun _ h9 => h9) rfl dX8_plainOf_83 ?_
  refine va_get (D := (dC, dI)) (ci := 6) (v := .long 0) (C := RX6) (T := TX6) (N := 11) hx hb hts hi6 hown hK hP 2 rfl rfl 1 (by decide) hk5 (fun _ h9 => h9) rfl dX8_plainOf_86 ?_
  refine lv_aload_n hx hb dX8_plainOf_89 rfl (lv_at hl 2 rfl) ?_
  refine va_get (D := (dC, dI)) (ci := 8) (v := .ref (ad 38)) (C := RX8) (T := TX8) (N := 10) hx hb hts hi8 hown hK hP 0 rfl rfl 6 (by decide) hk0 (fun _ h9 => h9) rfl dX8_plainOf_90 ?_
  refine va_get (D := (dC, dI)) (ci := 6) (v := .long 0) (C := RX6) (T := TX6) (N := 11) hx hb hts hi6 hown hK hP 2 rfl rfl 1 (by decide) hk5 (fun _ h9 => h9) rfl dX8_plainOf_93 ?_
  refine lv_lmul hx hb dX8_plainOf_96 ?_
  refine z_topl (y := 0) (by decide +kernel) ?_
  refine lv_lsub hx hb dX8_plainOf_97 ?_
  refine z_topl (y := 0) (by decide +kernel) ?_
  refine lv_lstore (lv' := [(5, .long 0), (3, .long 0), (1, .long 0), (0, .ref (ad 0))]) hx hb dX8_plainOf_98 hl (by decide) rfl (fun ls hl => ?_)
  refine lv_lload_n hx hb dX8_plainOf_100 rfl (lv_at hl 1 rfl) ?_
  refine lv_lload hx hb dX8_plainOf_101 (lv_at hl 0 rfl) ?_
  refine z_finl (w' := fun (u4 : Unit) => [(ad 0, .inr (8, xf0 ad)), (ad 23, .inr (5, xf23 ad)), (ad 38, .inr (6, xf38 ad))]) (va_runS (As := [.long 0, .long 0]) (rest := []) ⟨hx, hb, hml, hown, hts⟩ (c_X8_thousandths_48 l dC dI cB cI cJ cZ cP cQ H.size) (va_cwS 2 hts gX8_plainOf_X8_thousandths rfl rfl rfl (by decide +kernel) ⟨Nat.le_of_ble_eq_true rfl, Nat.le_of_ble_eq_true rfl⟩) (z_pS hK hP hD zX_nil [] (by decide) rfl) rfl rfl hl.1 rfl (lv_room (Nat.le_of_ble_eq_true rfl)) dX8_plainOf_103 ⟨Nat.le_of_ble_eq_true rfl, Nat.le_of_ble_eq_true rfl⟩) hP hD hS hA [] [0, 1, 2] [0, 1, 2] rfl rfl (by decide) (by decide) (fun _ => rfl) (by decide) (fun r5 u4 H locs hp6 hP hD hS => ?_)
  have hP : va_P (dC, dI) vwCl [(ad 0, .inr (8, xf0 ad)), (ad 23, .inr (5, xf23 ad)), (ad 38, .inr (6, xf38 ad))] H := hP
  have hD : va_D A [(ad 0, .inr (8, xf0 ad)), (ad 23, .inr (5, xf23 ad)), (ad 38, .inr (6, xf38 ad))] := hD
  refine W.widen (k := 0) (n := 0) (by decide) (by decide) ?_
  obtain rfl : r5 = (-9000000000000000000) := hp6
  exact z_lret () hx hb hr hlocks hK hP hD hS hAe hQ rfl rfl dX8_plainOf_106
set_option maxHeartbeats 4000000 in
set_option maxRecDepth 100000 in
theorem c_X8_toFace_49 (l : Launch) (dC : Nat → ClassId) (dI : Nat → Nat → Nat) (cB cI cJ cZ cP cQ : ClassId) (sz : Nat) : Met l yX8_toFace wsX8_toFace ({ frames := 0, cells := 0, slots := 0, locals := 0 } : Room) (zPc [.long (-9000000000000000000)] (dC, dI) (zT cB cI cJ cZ cP cQ) [] sz [] []) (va_Ql (fun r _ => (fun r => r = (-2000000000)) r) (zB (dC, dI) (zT cB cI cJ cZ cP cQ) (fun _ : Unit => []) [] sz) (va_A [] sz)) 0 0 (va_A [] sz) := by
  refine z_enter (cc := cX8_toFace) (maxL := 2) (ret := (some .long)) (by decide) rfl (Nat.le_of_ble_eq_true rfl) ?_
  intro p e s m below meth c A ls Q H locs hx hb hr hml hown hts hlocks hin hK hP hD hA hX hS hAe hQ hl
  have hown : s.vm.findClass RX8 = some m.cls := hown
  have hk0 := hts (.constantLong RX8 282 (-9000000000000000000)) (by decide +kernel)
  have hk1 := hts (.constantLong RX8 320 (-2000000000)) (by decide +kernel)
  have hl : lv_has ls 2 [(0, .long (-9000000000000000000))] := hl
  refine lv_lload_n hx hb dX8_toFace_0 rfl (lv_at hl 0 rfl) ?_
  refine lv_ldc2 hx hb hown hk0 dX8_toFace_1 ?_
  refine W.lcmp hx hb dX8_toFace_4 ?_
  refine z_topi (y := 0) (by decide +kernel) ?_
  refine lv_if_ne (tgt := 14) hx hb dX8_toFace_5 (by decide) (fun c => absurd (by decide) c) (fun _ => ?_)
  refine lv_ldc2 hx hb hown hk1 dX8_toFace_8 ?_
  refine lv_goto (tgt := 15) hx hb dX8_toFace_11 (by decide) ?_
  exact z_lret () hx hb hr hlocks hK hP hD hS hAe hQ rfl rfl dX8_toFace_15
set_option maxHeartbeats 4000000 in
set_option maxRecDepth 100000 in
theorem c_X8_plain_49 (l : Launch) (dC : Nat → ClassId) (dI : Nat → Nat → Nat) (cB cI cJ cZ cP cQ : ClassId) (ad : Nat → Nat) (sz : Nat) : Met l yX8_plain wsX8_plain ({ frames := 2, cells := 0, slots := 0, locals := 49 } : Room) (zPc [.ref (ad 0)] (dC, dI) (zT cB cI cJ cZ cP cQ) [(ad 0, .inr (8, xf0 ad)), (ad 23, .inr (5, xf23 ad)), (ad 38, .inr (6, xf38 ad))] sz [] []) (va_Ql (fun r _ => (fun r => r = (-2000000000)) r) (zB (dC, dI) (zT cB cI cJ cZ cP cQ) (fun _ : Unit => []) [(ad 0, .inr (8, xf0 ad)), (ad 23, .inr (5, xf23 ad)), (ad 38, .inr (6, xf38 ad))] sz) (va_A [(ad 0, .inr (8, xf0 ad)), (ad 23, .inr (5, xf23 ad)), (ad 38, .inr (6, xf38 ad))] sz)) 0 0 (va_A [(ad 0, .inr (8, xf0 ad)), (ad 23, .inr (5, xf23 ad)), (ad 38, .inr (6, xf38 ad))] sz) := by
  refine z_enter (cc := cX8_plain) (maxL := 1) (ret := (some .long)) (by decide) rfl (Nat.le_of_ble_eq_true rfl) ?_
  intro p e s m below meth c A ls Q H locs hx hb hr hml hown hts hlocks hin hK hP hD hA hX hS hAe hQ hl
  have hown : s.vm.findClass RX8 = some m.cls := hown
  have hl : lv_has ls 1 [(0, .ref (ad 0))] := hl
  refine lv_aload_n hx hb dX8_plain_0 rfl (lv_at hl 0 rfl) ?_
  refine z_finl (w' := fun (u1 : Unit) => [(ad 0, .inr (8, xf0 ad)), (ad 23, .inr (5, xf23 ad)), (ad 38, .inr (6, xf38 ad))]) (va_runV (As := []) (rest := []) ⟨hx, hb, hml, hown, hts⟩ (c_X8_plainOf_48 l dC dI cB cI cJ cZ cP cQ ad H.size) (cwV 0 hts gX8_plain_X8_plainOf rfl rfl rfl (by decide +kernel) ⟨Nat.le_of_ble_eq_true rfl, Nat.le_of_ble_eq_true rfl⟩) (z_pV (ci := 8) hK hP hD zX_nil [0, 1, 2] (by decide) rfl rfl 0 rfl) rfl rfl hl.1 rfl (lv_room (Nat.le_of_ble_eq_true rfl)) dX8_plain_1 ⟨Nat.le_of_ble_eq_true rfl, Nat.le_of_ble_eq_true rfl⟩) hP hD hS hA [0, 1, 2] [] [0, 1, 2] rfl rfl (by decide) (by decide) (fun _ => rfl) (by decide) (fun r2 u1 H locs hp3 hP hD hS => ?_)
  have hP : va_P (dC, dI) vwCl [(ad 0, .inr (8, xf0 ad)), (ad 23, .inr (5, xf23 ad)), (ad 38, .inr (6, xf38 ad))] H := hP
  have hD : va_D A [(ad 0, .inr (8, xf0 ad)), (ad 23, .inr (5, xf23 ad)), (ad 38, .inr (6, xf38 ad))] := hD
  refine W.widen (k := 0) (n := 0) (by decide) (by decide) ?_
  obtain rfl : r2 = (-9000000000000000000) := hp3
  refine z_finl (w' := fun (u4 : Unit) => [(ad 0, .inr (8, xf0 ad)), (ad 23, .inr (5, xf23 ad)), (ad 38, .inr (6, xf38 ad))]) (va_runS (As := [.long (-9000000000000000000)]) (rest := []) ⟨hx, hb, hml, hown, hts⟩ (c_X8_toFace_49 l dC dI cB cI cJ cZ cP cQ H.size) (va_cwS 1 hts gX8_plain_X8_toFace rfl rfl rfl (by decide +kernel) ⟨Nat.le_of_ble_eq_true rfl, Nat.le_of_ble_eq_true rfl⟩) (z_pS hK hP hD zX_nil [] (by decide) rfl) rfl rfl hl.1 rfl (lv_room (Nat.le_of_ble_eq_true rfl)) dX8_plain_4 ⟨Nat.le_of_ble_eq_true rfl, Nat.le_of_ble_eq_true rfl⟩) hP hD hS hA [] [0, 1, 2] [0, 1, 2] rfl rfl (by decide) (by decide) (fun _ => rfl) (by decide) (fun r5 u4 H locs hp6 hP hD hS => ?_)
  have hP : va_P (dC, dI) vwCl [(ad 0, .inr (8, xf0 ad)), (ad 23, .inr (5, xf23 ad)), (ad 38, .inr (6, xf38 ad))] H := hP
  have hD : va_D A [(ad 0, .inr (8, xf0 ad)), (ad 23, .inr (5, xf23 ad)), (ad 38, .inr (6, xf38 ad))] := hD
  refine W.widen (k := 0) (n := 0) (by decide) (by decide) ?_
  obtain rfl : r5 = (-2000000000) := hp6
  have hP9 := hP.sub (ws' := []) [] rfl
  have hD9 := hD.sub (ws' := []) [] (by decide) rfl
  exact z_lret () hx hb hr hlocks hK hP9 hD9 hS hAe hQ rfl rfl dX8_plain_7
set_option maxHeartbeats 4000000 in
set_option maxRecDepth 100000 in
theorem c_X8_within_53 (l : Launch) (dC : Nat → ClassId) (dI : Nat → Nat → Nat) (cB cI cJ cZ cP cQ : ClassId) (sz : Nat) (p0 : Int32) : Met l yX8_within wsX8_within ({ frames := 0, cells := 0, slots := 0, locals := 0 } : Room) (zPc [.int p0, .int 1, .int 4094] (dC, dI) (zT cB cI cJ cZ cP cQ) [] sz [] []) (va_Qi (fun r _ => (fun r => (r = 0 ∧ p0.toInt < 1) ∨ (r = 0 ∧ 1 ≤ p0.toInt ∧ 4094 < p0.toInt) ∨ (r = 1 ∧ 1 ≤ p0.toInt ∧ p0.toInt ≤ 4094)) r) (zB (dC, dI) (zT cB cI cJ cZ cP cQ) (fun _ : Unit => []) [] sz) (va_A [] sz)) 0 0 (va_A [] sz) := by
  refine z_enter (cc := cX8_within) (maxL := 3) (ret := (some .boolean)) (by decide) rfl (Nat.le_of_ble_eq_true rfl) ?_
  intro p e s m below meth c A ls Q H locs hx hb hr hml hown hts hlocks hin hK hP hD hA hX hS hAe hQ hl
  have hown : s.vm.findClass RX8 = some m.cls := hown
  have hl : lv_has ls 3 [(0, .int p0), (1, .int 1), (2, .int 4094)] := hl
  refine lv_iload_n hx hb dX8_within_0 rfl (lv_at hl 0 rfl) ?_
  refine lv_iload_n hx hb dX8_within_1 rfl (lv_at hl 1 rfl) ?_
  refine lv_icmp_lt (tgt := 14) hx hb dX8_within_2 (by decide) (fun c_1 => ?_) (fun c_1 => ?_)
  · have f2 : p0.toInt < 1 := z_lt rfl (by decide) c_1
    refine lv_iconst (v := 0) hx hb dX8_within_14 (by decide) ?_
    exact z_zret () hx hb hr hlocks hK hP hD hS hAe hQ rfl (Or.inl (⟨rfl, f2⟩)) (by decide) dX8_within_15
  · have f2 : 1 ≤ p0.toInt := z_nlt rfl (by decide) c_1
    refine lv_iload_n hx hb dX8_within_5 rfl (lv_at hl 0 rfl) ?_
    refine lv_iload_n hx hb dX8_within_6 rfl (lv_at hl 2 rfl) ?_
    refine lv_icmp_gt (tgt := 14) hx hb dX8_within_7 (by decide) (fun c_3 => ?_) (fun c_3 => ?_)
    · have f4 : 4094 < p0.toInt := z_lt (by decide) rfl c_3
      refine lv_iconst (v := 0) hx hb dX8_within_14 (by decide) ?_
      exact z_zret () hx hb hr hlocks hK hP hD hS hAe hQ rfl (Or.inr (Or.inl ⟨rfl, f2, f4⟩)) (by decide) dX8_within_15
    · have f4 : p0.toInt ≤ 4094 := z_nlt (by decide) rfl c_3
      refine lv_iconst (v := 1) hx hb dX8_within_10 (by decide) ?_
      refine lv_goto (tgt := 15) hx hb dX8_within_11 (by decide) ?_
      exact z_zret () hx hb hr hlocks hK hP hD hS hAe hQ rfl (Or.inr (Or.inr ⟨rfl, f2, f4⟩)) (by decide) dX8_within_15
set_option maxHeartbeats 4000000 in
set_option maxRecDepth 100000 in
theorem c_X8_isPush_53 (l : Launch) (dC : Nat → ClassId) (dI : Nat → Nat → Nat) (cB cI cJ cZ cP cQ : ClassId) (sz : Nat) (p0 : Int32) : Met l yX8_isPush wsX8_isPush ({ frames := 1, cells := 0, slots := 0, locals := 22 } : Room) (zPc [.int p0] (dC, dI) (zT cB cI cJ cZ cP cQ) [] sz [] []) (va_Qi (fun r _ => (fun r => (r = 0 ∧ p0.toInt < 1) ∨ (r = 0 ∧ 1 ≤ p0.toInt ∧ 4094 < p0.toInt) ∨ (r = 1 ∧ 1 ≤ p0.toInt ∧ p0.toInt ≤ 4094)) r) (zB (dC, dI) (zT cB cI cJ cZ cP cQ) (fun _ : Unit => []) [] sz) (va_A [] sz)) 0 0 (va_A [] sz) := by
  refine z_enter (cc := cX8_isPush) (maxL := 1) (ret := (some .boolean)) (by decide) rfl (Nat.le_of_ble_eq_true rfl) ?_
  intro p e s m below meth c A ls Q H locs hx hb hr hml hown hts hlocks hin hK hP hD hA hX hS hAe hQ hl
  have hown : s.vm.findClass RX8 = some m.cls := hown
  have hl : lv_has ls 1 [(0, .int p0)] := hl
  refine lv_iload_n hx hb dX8_isPush_0 rfl (lv_at hl 0 rfl) ?_
  refine lv_iconst (v := 1) hx hb dX8_isPush_1 (by decide) ?_
  refine lv_sipush (v := 4094) hx hb dX8_isPush_2 (by decide) ?_
  refine z_fini (w' := fun (u1 : Unit) => []) (va_runS (As := [.int p0, .int 1, .int 4094]) (rest := []) ⟨hx, hb, hml, hown, hts⟩ (c_X8_within_53 l dC dI cB cI cJ cZ cP cQ H.size p0) (va_cwS 3 hts gX8_isPush_X8_within rfl rfl rfl (by decide +kernel) ⟨Nat.le_of_ble_eq_true rfl, Nat.le_of_ble_eq_true rfl⟩) (z_pS hK hP hD zX_nil [] (by decide) rfl) rfl rfl hl.1 rfl (lv_room (Nat.le_of_ble_eq_true rfl)) dX8_isPush_5 ⟨Nat.le_of_ble_eq_true rfl, Nat.le_of_ble_eq_true rfl⟩) hP hD hS hA [] [] [] rfl rfl (by decide) (by decide) (fun _ => rfl) (by decide) (fun r2 u1 H locs hp3 hP hD hS => ?_)
  have hP : va_P (dC, dI) vwCl [] H := hP
  have hD : va_D A [] := hD
  refine W.widen (k := 0) (n := 0) (by decide) (by decide) ?_
  rcases hp3 with ⟨rfl, f4⟩ | ⟨rfl, f5, f6⟩ | ⟨rfl, f7, f8⟩
  · exact z_zret () hx hb hr hlocks hK hP hD hS hAe hQ rfl (Or.inl (⟨rfl, f4⟩)) (by decide) dX8_isPush_8
  · exact z_zret () hx hb hr hlocks hK hP hD hS hAe hQ rfl (Or.inr (Or.inl ⟨rfl, f5, f6⟩)) (by decide) dX8_isPush_8
  · exact z_zret () hx hb hr hlocks hK hP hD hS hAe hQ rfl (Or.inr (Or.inr ⟨rfl, f7, f8⟩)) (by decide) dX8_isPush_8
set_option maxHeartbeats 4000000 in
set_option maxRecDepth 100000 in
theorem c_X8_divided_53 (l : Launch) (dC : Nat → ClassId) (dI : Nat → Nat → Nat) (cB cI cJ cZ cP cQ : ClassId) (ad : Nat → Nat) (sz : Nat) (p2 : Int32) : Met l yX8_divided wsX8_divided ({ frames := 2, cells := 0, slots := 0, locals := 42 } : Room) (zPc [.ref (ad 0), .ref (ad 23), .int p2] (dC, dI) (zT cB cI cJ cZ cP cQ) [(ad 0, .inr (8, xf0 ad)), (ad 23, .inr (5, xf23 ad)), (ad 38, .inr (6, xf38 ad))] sz [] []) (va_Qr (fun _ => (p2.toInt < 1) ∨ (1 ≤ p2.toInt ∧ 4094 < p2.toInt) ∨ (1 ≤ p2.toInt ∧ p2.toInt ≤ 4094)) (fun u a t => a = (ad 38) ∧ (zB (dC, dI) (zT cB cI cJ cZ cP cQ) (fun _ : Unit => [(ad 0, .inr (8, xf0 ad)), (ad 23, .inr (5, xf23 ad)), (ad 38, .inr (6, xf38 ad))]) [(ad 0, .inr (8, xf0 ad)), (ad 23, .inr (5, xf23 ad)), (ad 38, .inr (6, xf38 ad))] sz) u t) (va_A [(ad 0, .inr (8, xf0 ad)), (ad 23, .inr (5, xf23 ad)), (ad 38, .inr (6, xf38 ad))] sz)) 0 0 (va_A [(ad 0, .inr (8, xf0 ad)), (ad 23, .inr (5, xf23 ad)), (ad 38, .inr (6, xf38 ad))] sz) := by
  refine z_enter (cc := cX8_divided) (maxL := 4) (ret := (some (.object "MonthPush$Split"))) (by decide) rfl (Nat.le_of_ble_eq_true rfl) ?_
  intro p e s m below meth c A ls Q H locs hx hb hr hml hown hts hlocks hin hK hP hD hA hX hS hAe hQ hl
  have hown : s.vm.findClass RX8 = some m.cls := hown
  have hi5 : ∀ w ∈ wsX50, w ∈ wsX8_divided := fun w h => List.mem_cons_of_mem _ (List.mem_append_left _ (List.mem_append_right _ h))
  have hi8 : ∀ w ∈ wsX80, w ∈ wsX8_divided := fun w h => List.mem_cons_of_mem _ (List.mem_append_left _ (List.mem_append_left _ (List.mem_append_right _ h)))
  have hk0 := hts (.fieldLink RX8 46 "MonthPush" "split" "LMonthPush$Split;") (by decide +kernel)
  have hk1 := hts (.fieldLink RX8 127 "MonthPush$Sheets" "n" "I") (by decide +kernel)
  have hl : lv_has ls 4 [(0, .ref (ad 0)), (1, .ref (ad 23)), (2, .int p2)] := hl
  refine lv_aload_n hx hb dX8_divided_0 rfl (lv_at hl 0 rfl) ?_
  refine va_get (D := (dC, dI)) (ci := 8) (v := .ref (ad 38)) (C := RX8) (T := TX8) (N := 10) hx hb hts hi8 hown hK hP 0 rfl rfl 6 (by decide) hk0 (fun _ h9 => h9) rfl dX8_divided_1 ?_
  refine z_finv (w' := fun (u1 : Unit) => [(ad 0, .inr (8, xf0 ad)), (ad 23, .inr (5, xf23 ad)), (ad 38, .inr (6, xf38 ad))]) (va_runV (As := []) (rest := []) ⟨hx, hb, hml, hown, hts⟩ (c_X6_clear_47 l dC dI cB cI cJ cZ cP cQ ad H.size) (cwV 0 hts gX8_divided_X6_clear rfl rfl rfl (by decide +kernel) ⟨Nat.le_of_ble_eq_true rfl, Nat.le_of_ble_eq_true rfl⟩) (z_pV (ci := 6) hK hP hD zX_nil [2] (by decide) rfl rfl 2 rfl) rfl rfl hl.1 rfl (lv_room (Nat.le_of_ble_eq_true rfl)) dX8_divided_4 ⟨Nat.le_of_ble_eq_true rfl, Nat.le_of_ble_eq_true rfl⟩) hP hD hS hA [2] [0, 1] [0, 1, 2] rfl rfl (by decide) (by decide) (fun _ => rfl) (by decide) (fun u1 H locs hp3 hP hD hS => ?_)
  have hP : va_P (dC, dI) vwCl [(ad 0, .inr (8, xf0 ad)), (ad 23, .inr (5, xf23 ad)), (ad 38, .inr (6, xf38 ad))] H := hP
  have hD : va_D A [(ad 0, .inr (8, xf0 ad)), (ad 23, .inr (5, xf23 ad)), (ad 38, .inr (6, xf38 ad))] := hD
  refine W.widen (k := 0) (n := 0) (by decide) (by decide) ?_
  refine lv_iload_n hx hb dX8_divided_7 rfl (lv_at hl 2 rfl) ?_
  refine z_fini (w' := fun (u4 : Unit) => [(ad 0, .inr (8, xf0 ad)), (ad 23, .inr (5, xf23 ad)), (ad 38, .inr (6, xf38 ad))]) (va_runS (As := [.int p2]) (rest := []) ⟨hx, hb, hml, hown, hts⟩ (c_X8_isPush_53 l dC dI cB cI cJ cZ cP cQ H.size p2) (va_cwS 1 hts gX8_divided_X8_isPush rfl rfl rfl (by decide +kernel) ⟨Nat.le_of_ble_eq_true rfl, Nat.le_of_ble_eq_true rfl⟩) (z_pS hK hP hD zX_nil [] (by decide) rfl) rfl rfl hl.1 rfl (lv_room (Nat.le_of_ble_eq_true rfl)) dX8_divided_8 ⟨Nat.le_of_ble_eq_true rfl, Nat.le_of_ble_eq_true rfl⟩) hP hD hS hA [] [0, 1, 2] [0, 1, 2] rfl rfl (by decide) (by decide) (fun _ => rfl) (by decide) (fun r5 u4 H locs hp6 hP hD hS => ?_)
  have hP : va_P (dC, dI) vwCl [(ad 0, .inr (8, xf0 ad)), (ad 23, .inr (5, xf23 ad)), (ad 38, .inr (6, xf38 ad))] H := hP
  have hD : va_D A [(ad 0, .inr (8, xf0 ad)), (ad 23, .inr (5, xf23 ad)), (ad 38, .inr (6, xf38 ad))] := hD
  refine W.widen (k := 0) (n := 0) (by decide) (by decide) ?_
  rcases hp6 with ⟨rfl, f7⟩ | ⟨rfl, f8, f9⟩ | ⟨rfl, f10, f11⟩
  · refine lv_if_eq (tgt := 49) hx hb dX8_divided_11 (by decide) (fun _ => ?_) (fun c => absurd (by decide) c)
    refine lv_aload_n hx hb dX8_divided_49 rfl (lv_at hl 0 rfl) ?_
    refine va_get (D := (dC, dI)) (ci := 8) (v := .ref (ad 38)) (C := RX8) (T := TX8) (N := 10) hx hb hts hi8 hown hK hP 0 rfl rfl 6 (by decide) hk0 (fun _ h9 => h9) rfl dX8_divided_50 ?_
    exact z_aret () hx hb hr (Or.inl ⟨_, rfl⟩) hlocks hK hP hD hS hAe hQ rfl rfl (Or.inl f7) dX8_divided_53
  · refine lv_if_eq (tgt := 49) hx hb dX8_divided_11 (by decide) (fun _ => ?_) (fun c => absurd (by decide) c)
    refine lv_aload_n hx hb dX8_divided_49 rfl (lv_at hl 0 rfl) ?_
    refine va_get (D := (dC, dI)) (ci := 8) (v := .ref (ad 38)) (C := RX8) (T := TX8) (N := 10) hx hb hts hi8 hown hK hP 0 rfl rfl 6 (by decide) hk0 (fun _ h9 => h9) rfl dX8_divided_50 ?_
    exact z_aret () hx hb hr (Or.inl ⟨_, rfl⟩) hlocks hK hP hD hS hAe hQ rfl rfl (Or.inr (Or.inl ⟨f8, f9⟩)) dX8_divided_53
  · refine lv_if_eq (tgt := 49) hx hb dX8_divided_11 (by decide) (fun c => absurd c (by decide)) (fun _ => ?_)
    refine lv_iconst (v := 0) hx hb dX8_divided_14 (by decide) ?_
    refine lv_istore_n (lv' := [(3, .int 0), (0, .ref (ad 0)), (1, .ref (ad 23)), (2, .int p2)]) hx hb dX8_divided_15 rfl hl (by decide) rfl (fun ls hl => ?_)
    refine lv_iload_n hx hb dX8_divided_16 rfl (lv_at hl 0 rfl) ?_
    refine lv_aload_n hx hb dX8_divided_17 rfl (lv_at hl 2 rfl) ?_
    refine va_get (D := (dC, dI)) (ci := 5) (v := .int 0) (C := RX5) (T := TX5) (N := 7) hx hb hts hi5 hown hK hP 1 rfl rfl 0 (by decide) hk1 (fun _ h9 => h9) rfl dX8_divided_18 ?_
    refine lv_icmp_ge (tgt := 49) hx hb dX8_divided_21 (by decide) (fun _ => ?_) (fun c => absurd (by decide) c)
    refine lv_aload_n hx hb dX8_divided_49 rfl (lv_at hl 1 rfl) ?_
    refine va_get (D := (dC, dI)) (ci := 8) (v := .ref (ad 38)) (C := RX8) (T := TX8) (N := 10) hx hb hts hi8 hown hK hP 0 rfl rfl 6 (by decide) hk0 (fun _ h9 => h9) rfl dX8_divided_50 ?_
    exact z_aret () hx hb hr (Or.inl ⟨_, rfl⟩) hlocks hK hP hD hS hAe hQ rfl rfl (Or.inr (Or.inr ⟨f10, f11⟩)) dX8_divided_53
set_option maxHeartbeats 4000000 in
set_option maxRecDepth 100000 in
theorem c_X6_gapOf_56 (l : Launch) (dC : Nat → ClassId) (dI : Nat → Nat → Nat) (cB cI cJ cZ cP cQ : ClassId) (ad : Nat → Nat) (sz : Nat) : Met l yX6_gapOf wsX6_gapOf ({ frames := 0, cells := 0, slots := 0, locals := 0 } : Room) (zPc [.ref (ad 38), .long 0, .long 0] (dC, dI) (zT cB cI cJ cZ cP cQ) [(ad 38, .inr (6, xf38 ad))] sz [] []) (va_Ql (fun r _ => (fun r => r = 0) r) (zB (dC, dI) (zT cB cI cJ cZ cP cQ) (fun _ : Unit => [(ad 38, .inr (6, xf38 ad))]) [(ad 38, .inr (6, xf38 ad))] sz) (va_A [(ad 38, .inr (6, xf38 ad))] sz)) 0 0 (va_A [(ad 38, .inr (6, xf38 ad))] sz) := by
  refine z_enter (cc := cX6_gapOf) (maxL := 5) (ret := (some .long)) (by decide) rfl (Nat.le_of_ble_eq_true rfl) ?_
  intro p e s m below meth c A ls Q H locs hx hb hr hml hown hts hlocks hin hK hP hD hA hX hS hAe hQ hl
  have hown : s.vm.findClass RX6 = some m.cls := hown
  have hi6 : ∀ w ∈ wsX60, w ∈ wsX6_gapOf := fun w h => List.mem_cons_of_mem _ (List.mem_append_right _ h)
  have hk0 := hts (.fieldLink RX6 24 "MonthPush$Split" "others" "J") (by decide +kernel)
  have hk1 := hts (.fieldLink RX6 9 "MonthPush$Split" "n" "J") (by decide +kernel)
  have hl : lv_has ls 5 [(0, .ref (ad 38)), (1, .long 0), (3, .long 0)] := hl
  refine lv_lload_n hx hb dX6_gapOf_0 rfl (lv_at hl 1 rfl) ?_
  refine lv_aload_n hx hb dX6_gapOf_1 rfl (lv_at hl 0 rfl) ?_
  refine va_get (D := (dC, dI)) (ci := 6) (v := .long 0) (C := RX6) (T := TX6) (N := 11) hx hb hts hi6 hown hK hP 0 rfl rfl 4 (by decide) hk0 (fun _ h9 => h9) rfl dX6_gapOf_2 ?_
  refine lv_lmul hx hb dX6_gapOf_5 ?_
  refine z_topl (y := 0) (by decide +kernel) ?_
  refine lv_lload_n hx hb dX6_gapOf_6 rfl (lv_at hl 2 rfl) ?_
  refine lv_aload_n hx hb dX6_gapOf_7 rfl (lv_at hl 0 rfl) ?_
  refine va_get (D := (dC, dI)) (ci := 6) (v := .long 0) (C := RX6) (T := TX6) (N := 11) hx hb hts hi6 hown hK hP 0 rfl rfl 0 (by decide) hk1 (fun _ h9 => h9) rfl dX6_gapOf_8 ?_
  refine lv_lmul hx hb dX6_gapOf_11 ?_
  refine z_topl (y := 0) (by decide +kernel) ?_
  refine lv_lsub hx hb dX6_gapOf_12 ?_
  refine z_topl (y := 0) (by decide +kernel) ?_
  exact z_lret () hx hb hr hlocks hK hP hD hS hAe hQ rfl rfl dX6_gapOf_13
set_option maxHeartbeats 4000000 in
set_option maxRecDepth 100000 in
theorem c_X6_hasBoth_57 (l : Launch) (dC : Nat → ClassId) (dI : Nat → Nat → Nat) (cB cI cJ cZ cP cQ : ClassId) (ad : Nat → Nat) (sz : Nat) : Met l yX6_hasBoth wsX6_hasBoth ({ frames := 0, cells := 0, slots := 0, locals := 0 } : Room) (zPc [.ref (ad 38)] (dC, dI) (zT cB cI cJ cZ cP cQ) [(ad 38, .inr (6, xf38 ad))] sz [] []) (va_Qi (fun r _ => (fun r => r = 0) r) (zB (dC, dI) (zT cB cI cJ cZ cP cQ) (fun _ : Unit => [(ad 38, .inr (6, xf38 ad))]) [(ad 38, .inr (6, xf38 ad))] sz) (va_A [(ad 38, .inr (6, xf38 ad))] sz)) 0 0 (va_A [(ad 38, .inr (6, xf38 ad))] sz) := by
  refine z_enter (cc := cX6_hasBoth) (maxL := 1) (ret := (some .boolean)) (by decide) rfl (Nat.le_of_ble_eq_true rfl) ?_
  intro p e s m below meth c A ls Q H locs hx hb hr hml hown hts hlocks hin hK hP hD hA hX hS hAe hQ hl
  have hown : s.vm.findClass RX6 = some m.cls := hown
  have hi6 : ∀ w ∈ wsX60, w ∈ wsX6_hasBoth := fun w h => List.mem_cons_of_mem _ (List.mem_append_right _ h)
  have hk0 := hts (.fieldLink RX6 9 "MonthPush$Split" "n" "J") (by decide +kernel)
  have hl : lv_has ls 1 [(0, .ref (ad 38))] := hl
  refine lv_aload_n hx hb dX6_hasBoth_0 rfl (lv_at hl 0 rfl) ?_
  refine va_get (D := (dC, dI)) (ci := 6) (v := .long 0) (C := RX6) (T := TX6) (N := 11) hx hb hts hi6 hown hK hP 0 rfl rfl 0 (by decide) hk0 (fun _ h9 => h9) rfl dX6_hasBoth_1 ?_
  refine lv_lconst (v := 0) hx hb dX6_hasBoth_4 (by decide) ?_
  refine W.lcmp hx hb dX6_hasBoth_5 ?_
  refine z_topi (y := 0) (by decide +kernel) ?_
  refine lv_if_le (tgt := 22) hx hb dX6_hasBoth_6 (by decide) (fun _ => ?_) (fun c => absurd (by decide) c)
  refine lv_iconst (v := 0) hx hb dX6_hasBoth_22 (by decide) ?_
  exact z_zret () hx hb hr hlocks hK hP hD hS hAe hQ rfl rfl (by decide) dX6_hasBoth_23
set_option maxHeartbeats 4000000 in
set_option maxRecDepth 100000 in
theorem c_X6_byMovedLess_57 (l : Launch) (dC : Nat → ClassId) (dI : Nat → Nat → Nat) (cB cI cJ cZ cP cQ : ClassId) (ad : Nat → Nat) (sz : Nat) : Met l yX6_byMovedLess wsX6_byMovedLess ({ frames := 1, cells := 0, slots := 0, locals := 24 } : Room) (zPc [.ref (ad 38), .long 0] (dC, dI) (zT cB cI cJ cZ cP cQ) [(ad 38, .inr (6, xf38 ad))] sz [] []) (va_Ql (fun r _ => (fun r => r = (-9000000000000000000)) r) (zB (dC, dI) (zT cB cI cJ cZ cP cQ) (fun _ : Unit => [(ad 38, .inr (6, xf38 ad))]) [(ad 38, .inr (6, xf38 ad))] sz) (va_A [(ad 38, .inr (6, xf38 ad))] sz)) 0 0 (va_A [(ad 38, .inr (6, xf38 ad))] sz) := by
  refine z_enter (cc := cX6_byMovedLess) (maxL := 5) (ret := (some .long)) (by decide) rfl (Nat.le_of_ble_eq_true rfl) ?_
  intro p e s m below meth c A ls Q H locs hx hb hr hml hown hts hlocks hin hK hP hD hA hX hS hAe hQ hl
  have hown : s.vm.findClass RX6 = some m.cls := hown
  have hi6 : ∀ w ∈ wsX60, w ∈ wsX6_byMovedLess := fun w h => List.mem_cons_of_mem _ (List.mem_append_right _ h)
  have hk0 := hts (.fieldLink RX6 15 "MonthPush$Split" "school" "J") (by decide +kernel)
  have hk1 := hts (.fieldLink RX6 27 "MonthPush$Split" "otherSchool" "J") (by decide +kernel)
  have hk2 := hts (.constantLong RX6 64 (-9000000000000000000)) (by decide +kernel)
  have hl : lv_has ls 5 [(0, .ref (ad 38)), (1, .long 0)] := hl
  refine lv_aload_n hx hb dX6_byMovedLess_0 rfl (lv_at hl 0 rfl) ?_
  refine lv_aload_n hx hb dX6_byMovedLess_1 rfl (lv_at hl 0 rfl) ?_
  refine va_get (D := (dC, dI)) (ci := 6) (v := .long 0) (C := RX6) (T := TX6) (N := 11) hx hb hts hi6 hown hK hP 0 rfl rfl 1 (by decide) hk0 (fun _ h9 => h9) rfl dX6_byMovedLess_2 ?_
  refine lv_aload_n hx hb dX6_byMovedLess_5 rfl (lv_at hl 0 rfl) ?_
  refine va_get (D := (dC, dI)) (ci := 6) (v := .long 0) (C := RX6) (T := TX6) (N := 11) hx hb hts hi6 hown hK hP 0 rfl rfl 5 (by decide) hk1 (fun _ h9 => h9) rfl dX6_byMovedLess_6 ?_
  refine z_finl (w' := fun (u1 : Unit) => [(ad 38, .inr (6, xf38 ad))]) (va_runV (As := [.long 0, .long 0]) (rest := []) ⟨hx, hb, hml, hown, hts⟩ (c_X6_gapOf_56 l dC dI cB cI cJ cZ cP cQ ad H.size) (cwV 2 hts gX6_byMovedLess_X6_gapOf rfl rfl rfl (by decide +kernel) ⟨Nat.le_of_ble_eq_true rfl, Nat.le_of_ble_eq_true rfl⟩) (z_pV (ci := 6) hK hP hD zX_nil [0] (by decide) rfl rfl 0 rfl) rfl rfl hl.1 rfl (lv_room (Nat.le_of_ble_eq_true rfl)) dX6_byMovedLess_9 ⟨Nat.le_of_ble_eq_true rfl, Nat.le_of_ble_eq_true rfl⟩) hP hD hS hA [0] [] [0] rfl rfl (by decide) (by decide) (fun _ => rfl) (by decide) (fun r2 u1 H locs hp3 hP hD hS => ?_)
  have hP : va_P (dC, dI) vwCl [(ad 38, .inr (6, xf38 ad))] H := hP
  have hD : va_D A [(ad 38, .inr (6, xf38 ad))] := hD
  refine W.widen (k := 0) (n := 0) (by decide) (by decide) ?_
  obtain rfl : r2 = 0 := hp3
  refine lv_lstore_n (lv' := [(3, .long 0), (0, .ref (ad 38)), (1, .long 0)]) hx hb dX6_byMovedLess_12 rfl hl (by decide) rfl (fun ls hl => ?_)
  refine lv_aload_n hx hb dX6_byMovedLess_13 rfl (lv_at hl 1 rfl) ?_
  refine z_fini (w' := fun (u4 : Unit) => [(ad 38, .inr (6, xf38 ad))]) (va_runV (As := []) (rest := []) ⟨hx, hb, hml, hown, hts⟩ (c_X6_hasBoth_57 l dC dI cB cI cJ cZ cP cQ ad H.size) (cwV 0 hts gX6_byMovedLess_X6_hasBoth rfl rfl rfl (by decide +kernel) ⟨Nat.le_of_ble_eq_true rfl, Nat.le_of_ble_eq_true rfl⟩) (z_pV (ci := 6) hK hP hD zX_nil [0] (by decide) rfl rfl 0 rfl) rfl rfl hl.1 rfl (lv_room (Nat.le_of_ble_eq_true rfl)) dX6_byMovedLess_14 ⟨Nat.le_of_ble_eq_true rfl, Nat.le_of_ble_eq_true rfl⟩) hP hD hS hA [0] [] [0] rfl rfl (by decide) (by decide) (fun _ => rfl) (by decide) (fun r5 u4 H locs hp6 hP hD hS => ?_)
  have hP : va_P (dC, dI) vwCl [(ad 38, .inr (6, xf38 ad))] H := hP
  have hD : va_D A [(ad 38, .inr (6, xf38 ad))] := hD
  refine W.widen (k := 0) (n := 0) (by decide) (by decide) ?_
  obtain rfl : r5 = 0 := hp6
  refine lv_if_eq (tgt := 26) hx hb dX6_byMovedLess_17 (by decide) (fun _ => ?_) (fun c => absurd (by decide) c)
  refine lv_ldc2 hx hb hown hk2 dX6_byMovedLess_26 ?_
  exact z_lret () hx hb hr hlocks hK hP hD hS hAe hQ rfl rfl dX6_byMovedLess_29
