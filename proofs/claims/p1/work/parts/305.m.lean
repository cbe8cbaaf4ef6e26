set_option maxHeartbeats 4000000 in
set_option maxRecDepth 100000 in
theorem c_X8_write_138 (l : Launch) (dC : Nat → ClassId) (dI : Nat → Nat → Nat) (cB cI cJ cZ cP cQ : ClassId) (ad : Nat → Nat) (sz : Nat) (p1 : Int32) (p2 : Int32) (p3 : Int64) : Met l yX8_write wsX8_write ({ frames := 2, cells := 0, slots := 0, locals := 42 } : Room) (zPc [.ref (ad 0), .int p1, .int p2, .long p3] (dC, dI) (zT cB cI cJ cZ cP cQ) [(ad 0, .inr (8, xf0 ad)), (ad 44, .inl (cQ, 4, .inr (.inr (.inr (.inr (va_up (va_up (va_up (va_up (fun _ => none) (Int32.toNatClampNeg 0) (some (ad 45))) (Int32.toNatClampNeg 1) (some (ad 47))) (Int32.toNatClampNeg 2) (some (ad 49))) (Int32.toNatClampNeg 3) (some (ad 51)))))))), (ad 45, .inr (4, xf45 ad)), (ad 47, .inr (4, xf47 ad)), (ad 49, .inr (4, xf49 ad)), (ad 51, .inr (4, xf51 ad))] sz [] []) (va_Qi (fun r _ => (fun r => (r = (-2) ∧ p1.toInt < 0) ∨ (r = (-2) ∧ 0 ≤ p1.toInt ∧ 3 < p1.toInt) ∨ (r = (-6) ∧ 0 ≤ p1.toInt ∧ p1.toInt ≤ 3)) r) (zB (dC, dI) (zT cB cI cJ cZ cP cQ) (fun _ : Unit => []) [(ad 0, .inr (8, xf0 ad)), (ad 44, .inl (cQ, 4, .inr (.inr (.inr (.inr (va_up (va_up (va_up (va_up (fun _ => none) (Int32.toNatClampNeg 0) (some (ad 45))) (Int32.toNatClampNeg 1) (some (ad 47))) (Int32.toNatClampNeg 2) (some (ad 49))) (Int32.toNatClampNeg 3) (some (ad 51)))))))), (ad 45, .inr (4, xf45 ad)), (ad 47, .inr (4, xf47 ad)), (ad 49, .inr (4, xf49 ad)), (ad 51, .inr (4, xf51 ad))] sz) (va_A [(ad 0, .inr (8, xf0 ad)), (ad 44, .inl (cQ, 4, .inr (.inr (.inr (.inr (va_up (va_up (va_up (va_up (fun _ => none) (Int32.toNatClampNeg 0) (some (ad 45))) (Int32.toNatClampNeg 1) (some (ad 47))) (Int32.toNatClampNeg 2) (some (ad 49))) (Int32.toNatClampNeg 3) (some (ad 51)))))))), (ad 45, .inr (4, xf45 ad)), (ad 47, .inr (4, xf47 ad)), (ad 49, .inr (4, xf49 ad)), (ad 51, .inr (4, xf51 ad))] sz)) 0 0 (va_A [(ad 0, .inr (8, xf0 ad)), (ad 44, .inl (cQ, 4, .inr (.inr (.inr (.inr (va_up (va_up (va_up (va_up (fun _ => none) (Int32.toNatClampNeg 0) (some (ad 45))) (Int32.toNatClampNeg 1) (some (ad 47))) (Int32.toNatClampNeg 2) (some (ad 49))) (Int32.toNatClampNeg 3) (some (ad 51)))))))), (ad 45, .inr (4, xf45 ad)), (ad 47, .inr (4, xf47 ad)), (ad 49, .inr (4, xf49 ad)), (ad 51, .inr (4, xf51 ad))] sz) := by
  refine z_enter (cc := cX8_write) (maxL := 6) (ret := (some .int)) (by decide) rfl (Nat.le_of_ble_eq_true rfl) ?_
  intro p e s m below meth c A ls Q H locs hx hb hr hml hown hts hlocks hin hK hP hD hA hX hS hAe hQ hl
  have hown : s.vm.findClass RX8 = some m.cls := hown
  have hi8 : ∀ w ∈ wsX80, w ∈ wsX8_write := fun w h => List.mem_cons_of_mem _ (List.mem_append_left _ (List.mem_append_right _ h))
  have hk0 := hts (.fieldLink RX8 65 "MonthPush" "slots" "[LMonthPush$Row;") (by decide +kernel)
  have hl : lv_has ls 6 [(0, .ref (ad 0)), (1, .int p1), (2, .int p2), (3, .long p3)] := hl
  refine lv_iload_n hx hb dX8_write_0 rfl (lv_at hl 1 rfl) ?_
  refine z_fini (w' := fun (u1 : Unit) => [(ad 0, .inr (8, xf0 ad)), (ad 44, .inl (cQ, 4, .inr (.inr (.inr (.inr (va_up (va_up (va_up (va_up (fun _ => none) (Int32.toNatClampNeg 0) (some (ad 45))) (Int32.toNatClampNeg 1) (some (ad 47))) (Int32.toNatClampNeg 2) (some (ad 49))) (Int32.toNatClampNeg 3) (some (ad 51)))))))), (ad 45, .inr (4, xf45 ad)), (ad 47, .inr (4, xf47 ad)), (ad 49, .inr (4, xf49 ad)), (ad 51, .inr (4, xf51 ad))]) (va_runS (As := [.int p1]) (rest := []) ⟨hx, hb, hml, hown, hts⟩ (c_X8_isSlot_110 l dC dI cB cI cJ cZ cP cQ H.size p1) (va_cwS 1 hts gX8_write_X8_isSlot rfl rfl rfl (by decide +kernel) ⟨Nat.le_of_ble_eq_true rfl, Nat.le_of_ble_eq_true rfl⟩) (z_pS hK hP hD zX_nil [] (by decide) rfl) rfl rfl hl.1 rfl (lv_room (Nat.le_of_ble_eq_true rfl)) dX8_write_1 ⟨Nat.le_of_ble_eq_true rfl, Nat.le_of_ble_eq_true rfl⟩) hP hD hS hA [] [0, 1, 2, 3, 4, 5] [0, 1, 2, 3, 4, 5] rfl rfl (by decide) (by decide) (fun _ => rfl) (by decide) (fun r2 u1 H locs hp3 hP hD hS => ?_)
  have hP : va_P (dC, dI) vwCl [(ad 0, .inr (8, xf0 ad)), (ad 44, .inl (cQ, 4, .inr (.inr (.inr (.inr (va_up (va_up (va_up (va_up (fun _ => none) (Int32.toNatClampNeg 0) (some (ad 45))) (Int32.toNatClampNeg 1) (some (ad 47))) (Int32.toNatClampNeg 2) (some (ad 49))) (Int32.toNatClampNeg 3) (some (ad 51)))))))), (ad 45, .inr (4, xf45 ad)), (ad 47, .inr (4, xf47 ad)), (ad 49, .inr (4, xf49 ad)), (ad 51, .inr (4, xf51 ad))] H := hP
  have hD : va_D A [(ad 0, .inr (8, xf0 ad)), (ad 44, .inl (cQ, 4, .inr (.inr (.inr (.inr (va_up (va_up (va_up (va_up (fun _ => none) (Int32.toNatClampNeg 0) (some (ad 45))) (Int32.toNatClampNeg 1) (some (ad 47))) (Int32.toNatClampNeg 2) (some (ad 49))) (Int32.toNatClampNeg 3) (some (ad 51)))))))), (ad 45, .inr (4, xf45 ad)), (ad 47, .inr (4, xf47 ad)), (ad 49, .inr (4, xf49 ad)), (ad 51, .inr (4, xf51 ad))] := hD
  refine W.widen (k := 0) (n := 0) (by decide) (by decide) ?_
  rcases hp3 with ⟨rfl, f4⟩ | ⟨rfl, f5, f6⟩ | ⟨rfl, f7, f8⟩
  · refine lv_if_ne (tgt := 10) hx hb dX8_write_4 (by decide) (fun c => absurd (by decide) c) (fun _ => ?_)
    refine lv_bipush (v := (-2)) hx hb dX8_write_7 (by decide) ?_
    have hP9 := hP.sub (ws' := []) [] rfl
    have hD9 := hD.sub (ws' := []) [] (by decide) rfl
    exact z_iret () hx hb hr hlocks hK hP9 hD9 hS hAe hQ rfl (Or.inl (⟨rfl, f4⟩)) dX8_write_9
  · refine lv_if_ne (tgt := 10) hx hb dX8_write_4 (by decide) (fun c => absurd (by decide) c) (fun _ => ?_)
    refine lv_bipush (v := (-2)) hx hb dX8_write_7 (by decide) ?_
    have hP9 := hP.sub (ws' := []) [] rfl
    have hD9 := hD.sub (ws' := []) [] (by decide) rfl
    exact z_iret () hx hb hr hlocks hK hP9 hD9 hS hAe hQ rfl (Or.inr (Or.inl ⟨rfl, f5, f6⟩)) dX8_write_9
  · refine lv_if_ne (tgt := 10) hx hb dX8_write_4 (by decide) (fun _ => ?_) (fun c => absurd c (by decide))
    refine lv_aload_n hx hb dX8_write_10 rfl (lv_at hl 0 rfl) ?_
    refine va_get (D := (dC, dI)) (ci := 8) (v := .ref (ad 44)) (C := RX8) (T := TX8) (N := 10) hx hb hts hi8 hown hK hP 0 rfl rfl 9 (by decide) hk0 (fun _ h9 => h9) rfl dX8_write_11 ?_
    refine lv_iload_n hx hb dX8_write_14 rfl (lv_at hl 1 rfl) ?_
    obtain rfl | rfl | rfl | rfl : p1 = 0 ∨ p1 = 1 ∨ p1 = 2 ∨ p1 = 3 := z_cases4  (by omega) (by omega)
    · have hP : va_P (dC, dI) vwCl [(ad 0, .inr (8, xf0 ad)), (ad 44, .inl (cQ, 4, .inr (.inr (.inr (.inr (va_up (va_up (va_up (va_up (fun _ => none) (Int32.toNatClampNeg 0) (some (ad 45))) (Int32.toNatClampNeg 1) (some (ad 47))) (Int32.toNatClampNeg 2) (some (ad 49))) (Int32.toNatClampNeg 3) (some (ad 51)))))))), (ad 45, .inr (4, xf45 ad)), (ad 47, .inr (4, xf47 ad)), (ad 49, .inr (4, xf49 ad)), (ad 51, .inr (4, xf51 ad))] H := by assumption
      have hD : va_D A [(ad 0, .inr (8, xf0 ad)), (ad 44, .inl (cQ, 4, .inr (.inr (.inr (.inr (va_up (va_up (va_up (va_up (fun _ => none) (Int32.toNatClampNeg 0) (some (ad 45))) (Int32.toNatClampNeg 1) (some (ad 47))) (Int32.toNatClampNeg 2) (some (ad 49))) (Int32.toNatClampNeg 3) (some (ad 51)))))))), (ad 45, .inr (4, xf45 ad)), (ad 47, .inr (4, xf47 ad)), (ad 49, .inr (4, xf49 ad)), (ad 51, .inr (4, xf51 ad))] := by assumption
      refine va_aldq hx hb hK hP 1 5 rfl rfl (z_in (a := 0) (by decide) (by decide) (by decide)) dX8_write_15 ?_
      refine W.eq (g2 := F0 m 16 ls [.ref (ad 45)]) rfl ?_
      refine lv_astore (lv' := [(5, .ref (ad 45)), (0, .ref (ad 0)), (1, .int 0), (2, .int p2), (3, .long p3)]) hx hb dX8_write_16 hl (by decide) rfl (fun ls hl => ?_)
      refine lv_aload hx hb dX8_write_18 (lv_at hl 0 rfl) ?_
      refine z_fini (w' := fun (u9 : Unit) => [(ad 0, .inr (8, xf0 ad)), (ad 44, .inl (cQ, 4, .inr (.inr (.inr (.inr (va_up (va_up (va_up (va_up (fun _ => none) (Int32.toNatClampNeg 0) (some (ad 45))) (Int32.toNatClampNeg 1) (some (ad 47))) (Int32.toNatClampNeg 2) (some (ad 49))) (Int32.toNatClampNeg 3) (some (ad 51)))))))), (ad 45, .inr (4, xf45 ad)), (ad 47, .inr (4, xf47 ad)), (ad 49, .inr (4, xf49 ad)), (ad 51, .inr (4, xf51 ad))]) (va_runV (As := []) (rest := []) ⟨hx, hb, hml, hown, hts⟩ (c_X4_stands_111 l dC dI cB cI cJ cZ cP cQ ad H.size) (cwV 0 hts gX8_write_X4_stands rfl rfl rfl (by decide +kernel) ⟨Nat.le_of_ble_eq_true rfl, Nat.le_of_ble_eq_true rfl⟩) (z_pV (ci := 4) hK hP hD zX_nil [2] (by decide) rfl rfl 2 rfl) rfl rfl hl.1 rfl (lv_room (Nat.le_of_ble_eq_true rfl)) dX8_write_20 ⟨Nat.le_of_ble_eq_true rfl, Nat.le_of_ble_eq_true rfl⟩) hP hD hS hA [2] [0, 1, 3, 4, 5] [0, 1, 5, 2, 3, 4] rfl rfl (by decide) (by decide) (fun _ => rfl) (by decide) (fun r10 u9 H locs hp11 hP hD hS => ?_)
      have hP : va_P (dC, dI) vwCl [(ad 0, .inr (8, xf0 ad)), (ad 44, .inl (cQ, 4, .inr (.inr (.inr (.inr (va_up (va_up (va_up (va_up (fun _ => none) (Int32.toNatClampNeg 0) (some (ad 45))) (Int32.toNatClampNeg 1) (some (ad 47))) (Int32.toNatClampNeg 2) (some (ad 49))) (Int32.toNatClampNeg 3) (some (ad 51)))))))), (ad 45, .inr (4, xf45 ad)), (ad 47, .inr (4, xf47 ad)), (ad 49, .inr (4, xf49 ad)), (ad 51, .inr (4, xf51 ad))] H := hP
      have hD : va_D A [(ad 0, .inr (8, xf0 ad)), (ad 44, .inl (cQ, 4, .inr (.inr (.inr (.inr (va_up (va_up (va_up (va_up (fun _ => none) (Int32.toNatClampNeg 0) (some (ad 45))) (Int32.toNatClampNeg 1) (some (ad 47))) (Int32.toNatClampNeg 2) (some (ad 49))) (Int32.toNatClampNeg 3) (some (ad 51)))))))), (ad 45, .inr (4, xf45 ad)), (ad 47, .inr (4, xf47 ad)), (ad 49, .inr (4, xf49 ad)), (ad 51, .inr (4, xf51 ad))] := hD
      refine W.widen (k := 0) (n := 0) (by decide) (by decide) ?_
      obtain rfl : r10 = 0 := hp11
      refine lv_if_ne (tgt := 29) hx hb dX8_write_23 (by decide) (fun c => absurd (by decide) c) (fun _ => ?_)
      refine lv_bipush (v := (-6)) hx hb dX8_write_26 (by decide) ?_
      have hP9 := hP.sub (ws' := []) [] rfl
      have hD9 := hD.sub (ws' := []) [] (by decide) rfl
      exact z_iret () hx hb hr hlocks hK hP9 hD9 hS hAe hQ rfl (Or.inr (Or.inr ⟨rfl, f7, f8⟩)) dX8_write_28
    · have hP : va_P (dC, dI) vwCl [(ad 0, .inr (8, xf0 ad)), (ad 44, .inl (cQ, 4, .inr (.inr (.inr (.inr (va_up (va_up (va_up (va_up (fun _ => none) (Int32.toNatClampNeg 0) (some (ad 45))) (Int32.toNatClampNeg 1) (some (ad 47))) (Int32.toNatClampNeg 2) (some (ad 49))) (Int32.toNatClampNeg 3) (some (ad 51)))))))), (ad 45, .inr (4, xf45 ad)), (ad 47, .inr (4, xf47 ad)), (ad 49, .inr (4, xf49 ad)), (ad 51, .inr (4, xf51 ad))] H := by assumption
      have hD : va_D A [(ad 0, .inr (8, xf0 ad)), (ad 44, .inl (cQ, 4, .inr (.inr (.inr (.inr (va_up (va_up (va_up (va_up (fun _ => none) (Int32.toNatClampNeg 0) (some (ad 45))) (Int32.toNatClampNeg 1) (some (ad 47))) (Int32.toNatClampNeg 2) (some (ad 49))) (Int32.toNatClampNeg 3) (some (ad 51)))))))), (ad 45, .inr (4, xf45 ad)), (ad 47, .inr (4, xf47 ad)), (ad 49, .inr (4, xf49 ad)), (ad 51, .inr (4, xf51 ad))] := by assumption
      refine va_aldq hx hb hK hP 1 5 rfl rfl (z_in (a := 1) (by decide) (by decide) (by decide)) dX8_write_15 ?_
      refine W.eq (g2 := F0 m 16 ls [.ref (ad 47)]) rfl ?_
      refine lv_astore (lv' := [(5, .ref (ad 47)), (0, .ref (ad 0)), (1, .int 1), (2, .int p2), (3, .long p3)]) hx hb dX8_write_16 hl (by decide) rfl (fun ls hl => ?_)
      refine lv_aload hx hb dX8_write_18 (lv_at hl 0 rfl) ?_
      refine z_fini (w' := fun (u12 : Unit) => [(ad 0, .inr (8, xf0 ad)), (ad 44, .inl (cQ, 4, .inr (.inr (.inr (.inr (va_up (va_up (va_up (va_up (fun _ => none) (Int32.toNatClampNeg 0) (some (ad 45))) (Int32.toNatClampNeg 1) (some (ad 47))) (Int32.toNatClampNeg 2) (some (ad 49))) (Int32.toNatClampNeg 3) (some (ad 51)))))))), (ad 45, .inr (4, xf45 ad)), (ad 47, .inr (4, xf47 ad)), (ad 49, .inr (4, xf49 ad)), (ad 51, .inr (4, xf51 ad))]) (va_runV (As := []) (rest := []) ⟨hx, hb, hml, hown, hts⟩ (c_X4_stands_112 l dC dI cB cI cJ cZ cP cQ ad H.size) (cwV 0 hts gX8_write_X4_stands rfl rfl rfl (by decide +kernel) ⟨Nat.le_of_ble_eq_true rfl, Nat.le_of_ble_eq_true rfl⟩) (z_pV (ci := 4) hK hP hD zX_nil [3] (by decide) rfl rfl 3 rfl) rfl rfl hl.1 rfl (lv_room (Nat.le_of_ble_eq_true rfl)) dX8_write_20 ⟨Nat.le_of_ble_eq_true rfl, Nat.le_of_ble_eq_true rfl⟩) hP hD hS hA [3] [0, 1, 2, 4, 5] [0, 1, 2, 5, 3, 4] rfl rfl (by decide) (by decide) (fun _ => rfl) (by decide) (fun r13 u12 H locs hp14 hP hD hS => ?_)
      have hP : va_P (dC, dI) vwCl [(ad 0, .inr (8, xf0 ad)), (ad 44, .inl (cQ, 4, .inr (.inr (.inr (.inr (va_up (va_up (va_up (va_up (fun _ => none) (Int32.toNatClampNeg 0) (some (ad 45))) (Int32.toNatClampNeg 1) (some (ad 47))) (Int32.toNatClampNeg 2) (some (ad 49))) (Int32.toNatClampNeg 3) (some (ad 51)))))))), (ad 45, .inr (4, xf45 ad)), (ad 47, .inr (4, xf47 ad)), (ad 49, .inr (4, xf49 ad)), (ad 51, .inr (4, xf51 ad))] H := hP
      have hD : va_D A [(ad 0, .inr (8, xf0 ad)), (ad 44, .inl (cQ, 4, .inr (.inr (.inr (.inr (va_up (va_up (va_up (va_up (fun _ => none) (Int32.toNatClampNeg 0) (some (ad 45))) (Int32.toNatClampNeg 1) (some (ad 47))) (Int32.toNatClampNeg 2) (some (ad 49))) (Int32.toNatClampNeg 3) (some (ad 51)))))))), (ad 45, .inr (4, xf45 ad)), (ad 47, .inr (4, xf47 ad)), (ad 49, .inr (4, xf49 ad)), (ad 51, .inr (4, xf51 ad))] := hD
      refine W.widen (k := 0) (n := 0) (by decide) (by decide) ?_
      obtain rfl : r13 = 0 := hp14
      refine lv_if_ne (tgt := 29) hx hb dX8_write_23 (by decide) (fun c => absurd (by decide) c) (fun _ => ?_)
      refine lv_bipush (v := (-6)) hx hb dX8_write_26 (by decide) ?_
      have hP9 := hP.sub (ws' := []) [] rfl
      have hD9 := hD.sub (ws' := []) [] (by decide) rfl
      exact z_iret () hx hb hr hlocks hK hP9 hD9 hS hAe hQ rfl (Or.inr (Or.inr ⟨rfl, f7, f8⟩)) dX8_write_28
    · have hP : va_P (dC, dI) vwCl [(ad 0, .inr (8, xf0 ad)), (ad 44, .inl (cQ, 4, .inr (.inr (.inr (.inr (va_up (va_up (va_up (va_up (fun _ => none) (Int32.toNatClampNeg 0) (some (ad 45))) (Int32.toNatClampNeg 1) (some (ad 47))) (Int32.toNatClampNeg 2) (some (ad 49))) (Int32.toNatClampNeg 3) (some (ad 51)))))))), (ad 45, .inr (4, xf45 ad)), (ad 47, .inr (4, xf47 ad)), (ad 49, .inr (4, xf49 ad)), (ad 51, .inr (4, xf51 ad))] H := by assumption
      have hD : va_D A [(ad 0, .inr (8, xf0 ad)), (ad 44, .inl (cQ, 4, .inr (.inr (.inr (.inr (va_up (va_up (va_up (va_up (fun _ => none) (Int32.toNatClampNeg 0) (some (ad 45))) (Int32.toNatClampNeg 1) (some (ad 47))) (Int32.toNatClampNeg 2) (some (ad 49))) (Int32.toNatClampNeg 3) (some (ad 51)))))))), (ad 45, .inr (4, xf45 ad)), (ad 47, .inr (4, xf47 ad)), (ad 49, .inr (4, xf49 ad)), (ad 51, .inr (4, xf51 ad))] := by assumption
      refine va_aldq hx hb hK hP 1 5 rfl rfl (z_in (a := 2) (by decide) (by decide) (by decide)) dX8_write_15 ?_
      refine W.eq (g2 := F0 m 16 ls [.ref (ad 49)]) rfl ?_
      refine lv_astore (lv' := [(5, .ref (ad 49)), (0, .ref (ad 0)), (1, .int 2), (2, .int p2), (3, .long p3)]) hx hb dX8_write_16 hl (by decide) rfl (fun ls hl => ?_)
      refine lv_aload hx hb dX8_write_18 (lv_at hl 0 rfl) ?_
      refine z_fini (w' := fun (u15 : Unit) => [(ad 0, .inr (8, xf0 ad)), (ad 44, .inl (cQ, 4, .inr (.inr (.inr (.inr (va_up (va_up (va_up (va_up (fun _ => none) (Int32.toNatClampNeg 0) (some (ad 45))) (Int32.toNatClampNeg 1) (some (ad 47))) (Int32.toNatClampNeg 2) (some (ad 49))) (Int32.toNatClampNeg 3) (some (ad 51)))))))), (ad 45, .inr (4, xf45 ad)), (ad 47, .inr (4, xf47 ad)), (ad 49, .inr (4, xf49 ad)), (ad 51, .inr (4, xf51 ad))]) (va_runV (As := []) (rest := []) ⟨hx, hb, hml, hown, hts⟩ (c_X4_stands_113 l dC dI cB cI cJ cZ cP cQ ad H.size) (cwV 0 hts gX8_write_X4_stands rfl rfl rfl (by decide +kernel) ⟨Nat.le_of_ble_eq_true rfl, Nat.le_of_ble_eq_true rfl⟩) (z_pV (ci := 4) hK hP hD zX_nil [4] (by decide) rfl rfl 4 rfl) rfl rfl hl.1 rfl (lv_room (Nat.le_of_ble_eq_true rfl)) dX8_write_20 ⟨Nat.le_of_ble_eq_true rfl, Nat.le_of_ble_eq_true rfl⟩) hP hD hS hA [4] [0, 1, 2, 3, 5] [0, 1, 2, 3, 5, 4] rfl rfl (by decide) (by decide) (fun _ => rfl) (by decide) (fun r16 u15 H locs hp17 hP hD hS => ?_)
      have hP : va_P (dC, dI) vwCl [(ad 0, .inr (8, xf0 ad)), (ad 44, .inl (cQ, 4, .inr (.inr (.inr (.inr (va_up (va_up (va_up (va_up (fun _ => none) (Int32.toNatClampNeg 0) (some (ad 45))) (Int32.toNatClampNeg 1) (some (ad 47))) (Int32.toNatClampNeg 2) (some (ad 49))) (Int32.toNatClampNeg 3) (some (ad 51)))))))), (ad 45, .inr (4, xf45 ad)), (ad 47, .inr (4, xf47 ad)), (ad 49, .inr (4, xf49 ad)), (ad 51, .inr (4, xf51 ad))] H := hP
      have hD : va_D A [(ad 0, .inr (8, xf0 ad)), (ad 44, .inl (cQ, 4, .inr (.inr (.inr (.inr (va_up (va_up (va_up (va_up (fun _ => none) (Int32.toNatClampNeg 0) (some (ad 45))) (Int32.toNatClampNeg 1) (some (ad 47))) (Int32.toNatClampNeg 2) (some (ad 49))) (Int32.toNatClampNeg 3) (some (ad 51)))))))), (ad 45, .inr (4, xf45 ad)), (ad 47, .inr (4, xf47 ad)), (ad 49, .inr (4, xf49 ad)), (ad 51, .inr (4, xf51 ad))] := hD
      refine W.widen (k := 0) (n := 0) (by decide) (by decide) ?_
      obtain rfl : r16 = 0 := hp17
      refine lv_if_ne (tgt := 29) hx hb dX8_write_23 (by decide) (fun c => absurd (by decide) c) (fun _ => ?_)
      refine lv_bipush (v := (-6)) hx hb dX8_write_26 (by decide) ?_
      have hP9 := hP.sub (ws' := []) [] rfl
      have hD9 := hD.sub (ws' := []) [] (by decide) rfl
      exact z_iret () hx hb hr hlocks hK hP9 hD9 hS hAe hQ rfl (Or.inr (Or.inr ⟨rfl, f7, f8⟩)) dX8_write_28
    · have hP : va_P (dC, dI) vwCl [(ad 0, .inr (8, xf0 ad)), (ad 44, .inl (cQ, 4, .inr (.inr (.inr (.inr (va_up (va_up (va_up (va_up (fun _ => none) (Int32.toNatClampNeg 0) (some (ad 45))) (Int32.toNatClampNeg 1) (some (ad 47))) (Int32.toNatClampNeg 2) (some (ad 49))) (Int32.toNatClampNeg 3) (some (ad 51)))))))), (ad 45, .inr (4, xf45 ad)), (ad 47, .inr (4, xf47 ad)), (ad 49, .inr (4, xf49 ad)), (ad 51, .inr (4, xf51 ad))] H := by assumption
      have hD : va_D A [(ad 0, .inr (8, xf0 ad)), (ad 44, .inl (cQ, 4, .inr (.inr (.inr (.inr (va_up (va_up (va_up (va_up (fun _ => none) (Int32.toNatClampNeg 0) (some (ad 45))) (Int32.toNatClampNeg 1) (some (ad 47))) (Int32.toNatClampNeg 2) (some (ad 49))) (Int32.toNatClampNeg 3) (some (ad 51)))))))), (ad 45, .inr (4, xf45 ad)), (ad 47, .inr (4, xf47 ad)), (ad 49, .inr (4, xf49 ad)), (ad 51, .inr (4, xf51 ad))] := by assumption
      refine va_aldq hx hb hK hP 1 5 rfl rfl (z_in (a := 3) (by decide) (by decide) (by decide)) dX8_write_15 ?_
      refine W.eq (g2 := F0 m 16 ls [.ref (ad 51)]) rfl ?_
      refine lv_astore (lv' := [(5, .ref (ad 51)), (0, .ref (ad 0)), (1, .int 3), (2, .int p2), (3, .long p3)]) hx hb dX8_write_16 hl (by decide) rfl (fun ls hl => ?_)
      refine lv_aload hx hb dX8_write_18 (lv_at hl 0 rfl) ?_
      refine z_fini (w' := fun (u18 : Unit) => [(ad 0, .inr (8, xf0 ad)), (ad 44, .inl (cQ, 4, .inr (.inr (.inr (.inr (va_up (va_up (va_up (va_up (fun _ => none) (Int32.toNatClampNeg 0) (some (ad 45))) (Int32.toNatClampNeg 1) (some (ad 47))) (Int32.toNatClampNeg 2) (some (ad 49))) (Int32.toNatClampNeg 3) (some (ad 51)))))))), (ad 45, .inr (4, xf45 ad)), (ad 47, .inr (4, xf47 ad)), (ad 49, .inr (4, xf49 ad)), (ad 51, .inr (4, xf51 ad))]) (va_runV (As := []) (rest := []) ⟨hx, hb, hml, hown, hts⟩ (c_X4_stands_114 l dC dI cB cI cJ cZ cP cQ ad H.size) (cwV 0 hts gX8_write_X4_stands rfl rfl rfl (by decide +kernel) ⟨Nat.le_of_ble_eq_true rfl, Nat.le_of_ble_eq_true rfl⟩) (z_pV (ci := 4) hK hP hD zX_nil [5] (by decide) rfl rfl 5 rfl) rfl rfl hl.1 rfl (lv_room (Nat.le_of_ble_eq_true rfl)) dX8_write_20 ⟨Nat.le_of_ble_eq_true rfl, Nat.le_of_ble_eq_true rfl⟩) hP hD hS hA [5] [0, 1, 2, 3, 4] [0, 1, 2, 3, 4, 5] rfl rfl (by decide) (by decide) (fun _ => rfl) (by decide) (fun r19 u18 H locs hp20 hP hD hS => ?_)
      have hP : va_P (dC, dI) vwCl [(ad 0, .inr (8, xf0 ad)), (ad 44, .inl (cQ, 4, .inr (.inr (.inr (.inr (va_up (va_up (va_up (va_up (fun _ => none) (Int32.toNatClampNeg 0) (some (ad 45))) (Int32.toNatClampNeg 1) (some (ad 47))) (Int32.toNatClampNeg 2) (some (ad 49))) (Int32.toNatClampNeg 3) (some (ad 51)))))))), (ad 45, .inr (4, xf45 ad)), (ad 47, .inr (4, xf47 ad)), (ad 49, .inr (4, xf49 ad)), (ad 51, .inr (4, xf51 ad))] H := hP
      have hD : va_D A [(ad 0, .inr (8, xf0 ad)), (ad 44, .inl (cQ, 4, .inr (.inr (.inr (.inr (va_up (va_up (va_up (va_up (fun _ => none) (Int32.toNatClampNeg 0) (some (ad 45))) (Int32.toNatClampNeg 1) (some (ad 47))) (Int32.toNatClampNeg 2) (some (ad 49))) (Int32.toNatClampNeg 3) (some (ad 51)))))))), (ad 45, .inr (4, xf45 ad)), (ad 47, .inr (4, xf47 ad)), (ad 49, .inr (4, xf49 ad)), (ad 51, .inr (4, xf51 ad))] := hD
      refine W.widen (k := 0) (n := 0) (by decide) (by decide) ?_
      obtain rfl : r19 = 0 := hp20
      refine lv_if_ne (tgt := 29) hx hb dX8_write_23 (by decide) (fun c => absurd (by decide) c) (fun _ => ?_)
      refine lv_bipush (v := (-6)) hx hb dX8_write_26 (by decide) ?_
      have hP9 := hP.sub (ws' := []) [] rfl
      have hD9 := hD.sub (ws' := []) [] (by decide) rfl
      exact z_iret () hx hb hr hlocks hK hP9 hD9 hS hAe hQ rfl (Or.inr (Or.inr ⟨rfl, f7, f8⟩)) dX8_write_28
set_option maxHeartbeats 4000000 in
set_option maxRecDepth 100000 in
theorem c_X8_paste_139 (l : Launch) (dC : Nat → ClassId) (dI : Nat → Nat → Nat) (cB cI cJ cZ cP cQ : ClassId) (ad : Nat → Nat) (sz : Nat) (p1 : Int32) (p2 : Int32) (p3 : Int32) (p4 : Int32) (p5 : Int32) : Met l yX8_paste wsX8_paste ({ frames := 2, cells := 0, slots := 0, locals := 42 } : Room) (zPc [.ref (ad 0), .int p1, .int p2, .int p3, .int p4, .int p5] (dC, dI) (zT cB cI cJ cZ cP cQ) [(ad 0, .inr (8, xf0 ad)), (ad 44, .inl (cQ, 4, .inr (.inr (.inr (.inr (va_up (va_up (va_up (va_up (fun _ => none) (Int32.toNatClampNeg 0) (some (ad 45))) (Int32.toNatClampNeg 1) (some (ad 47))) (Int32.toNatClampNeg 2) (some (ad 49))) (Int32.toNatClampNeg 3) (some (ad 51)))))))), (ad 45, .inr (4, xf45 ad)), (ad 47, .inr (4, xf47 ad)), (ad 49, .inr (4, xf49 ad)), (ad 51, .inr (4, xf51 ad))] sz [] []) (va_Qi (fun r _ => (fun r => (r = (-2) ∧ p1.toInt < 0) ∨ (r = (-2) ∧ 0 ≤ p1.toInt ∧ 3 < p1.toInt) ∨ (r = (-2) ∧ 0 ≤ p1.toInt ∧ p1.toInt ≤ 3 ∧ p3.toInt < 0) ∨ (r = (-2) ∧ 0 ≤ p1.toInt ∧ p1.toInt ≤ 3 ∧ 0 ≤ p3.toInt ∧ 3 < p3.toInt) ∨ (r = (-6) ∧ 0 ≤ p1.toInt ∧ p1.toInt ≤ 3 ∧ 0 ≤ p3.toInt ∧ p3.toInt ≤ 3)) r) (zB (dC, dI) (zT cB cI cJ cZ cP cQ) (fun _ : Unit => []) [(ad 0, .inr (8, xf0 ad)), (ad 44, .inl (cQ, 4, .inr (.inr (.inr (.inr (va_up (va_up (va_up (va_up (fun _ => none) (Int32.toNatClampNeg 0) (some (ad 45))) (Int32.toNatClampNeg 1) (some (ad 47))) (Int32.toNatClampNeg 2) (some (ad 49))) (Int32.toNatClampNeg 3) (some (ad 51)))))))), (ad 45, .inr (4, xf45 ad)), (ad 47, .inr (4, xf47 ad)), (ad 49, .inr (4, xf49 ad)), (ad 51, .inr (4, xf51 ad))] sz) (va_A [(ad 0, .inr (8, xf0 ad)), (ad 44, .inl (cQ, 4, .inr (.inr (.inr (.inr (va_up (va_up (va_up (va_up (fun _ => none) (Int32.toNatClampNeg 0) (some (ad 45))) (Int32.toNatClampNeg 1) (some (ad 47))) (Int32.toNatClampNeg 2) (some (ad 49))) (Int32.toNatClampNeg 3) (some (ad 51)))))))), (ad 45, .inr (4, xf45 ad)), (ad 47, .inr (4, xf47 ad)), (ad 49, .inr (4, xf49 ad)), (ad 51, .inr (4, xf51 ad))] sz)) 0 0 (va_A [(ad 0, .inr (8, xf0 ad)), (ad 44, .inl (cQ, 4, .inr (.inr (.inr (.inr (va_up (va_up (va_up (va_up (fun _ => none) (Int32.toNatClampNeg 0) (some (ad 45))) (Int32.toNatClampNeg 1) (some (ad 47))) (Int32.toNatClampNeg 2) (some (ad 49))) (Int32.toNatClampNeg 3) (some (ad 51)))))))), (ad 45, .inr (4, xf45 ad)), (ad 47, .inr (4, xf47 ad)), (ad 49, .inr (4, xf49 ad)), (ad 51, .inr (4, xf51 ad))] sz) := by
  refine z_enter (cc := cX8_paste) (maxL := 8) (ret := (some .int)) (by decide) rfl (Nat.le_of_ble_eq_true rfl) ?_
  intro p e s m below meth c A ls Q H locs hx hb hr hml hown hts hlocks hin hK hP hD hA hX hS hAe hQ hl
  have hown : s.vm.findClass RX8 = some m.cls := hown
  have hi8 : ∀ w ∈ wsX80, w ∈ wsX8_paste := fun w h => List.mem_cons_of_mem _ (List.mem_append_left _ (List.mem_append_right _ h))
  have hk0 := hts (.fieldLink RX8 65 "MonthPush" "slots" "[LMonthPush$Row;") (by decide +kernel)
  have hl : lv_has ls 8 [(0, .ref (ad 0)), (1, .int p1), (2, .int p2), (3, .int p3), (4, .int p4), (5, .int p5)] := hl
  refine lv_iload_n hx hb dX8_paste_0 rfl (lv_at hl 1 rfl) ?_
  refine z_fini (w' := fun (u1 : Unit) => [(ad 0, .inr (8, xf0 ad)), (ad 44, .inl (cQ, 4, .inr (.inr (.inr (.inr (va_up (va_up (va_up (va_up (fun _ => none) (Int32.toNatClampNeg 0) (some (ad 45))) (Int32.toNatClampNeg 1) (some (ad 47))) (Int32.toNatClampNeg 2) (some (ad 49))) (Int32.toNatClampNeg 3) (some (ad 51)))))))), (ad 45, .inr (4, xf45 ad)), (ad 47, .inr (4, xf47 ad)), (ad 49, .inr (4, xf49 ad)), (ad 51, .inr (4, xf51 ad))]) (va_runS (As := [.int p1]) (rest := []) ⟨hx, hb, hml, hown, hts⟩ (c_X8_isSlot_110 l dC dI cB cI cJ cZ cP cQ H.size p1) (va_cwS 1 hts gX8_paste_X8_isSlot rfl rfl rfl (by decide +kernel) ⟨Nat.le_of_ble_eq_true rfl, Nat.le_of_ble_eq_true rfl⟩) (z_pS hK hP hD zX_nil [] (by decide) rfl) rfl rfl hl.1 rfl (lv_room (Nat.le_of_ble_eq_true rfl)) dX8_paste_1 ⟨Nat.le_of_ble_eq_true rfl, Nat.le_of_ble_eq_true rfl⟩) hP hD hS hA [] [0, 1, 2, 3, 4, 5] [0, 1, 2, 3, 4, 5] rfl rfl (by decide) (by decide) (fun _ => rfl) (by decide) (fun r2 u1 H locs hp3 hP hD hS => ?_)
  have hP : va_P (dC, dI) vwCl [(ad 0, .inr (8, xf0 ad)), (ad 44, .inl (cQ, 4, .inr (.inr (.inr (.inr (va_up (va_up (va_up (va_up (fun _ => none) (Int32.toNatClampNeg 0) (some (ad 45))) (Int32.toNatClampNeg 1) (some (ad 47))) (Int32.toNatClampNeg 2) (some (ad 49))) (Int32.toNatClampNeg 3) (some (ad 51)))))))), (ad 45, .inr (4, xf45 ad)), (ad 47, .inr (4, xf47 ad)), (ad 49, .inr (4, xf49 ad)), (ad 51, .inr (4, xf51 ad))] H := hP
  have hD : va_D A [(ad 0, .inr (8, xf0 ad)), (ad 44, .inl (cQ, 4, .inr (.inr (.inr (.inr (va_up (va_up (va_up (va_up (fun _ => none) (Int32.toNatClampNeg 0) (some (ad 45))) (Int32.toNatClampNeg 1) (some (ad 47))) (Int32.toNatClampNeg 2) (some (ad 49))) (Int32.toNatClampNeg 3) (some (ad 51)))))))), (ad 45, .inr (4, xf45 ad)), (ad 47, .inr (4, xf47 ad)), (ad 49, .inr (4, xf49 ad)), (ad 51, .inr (4, xf51 ad))] := hD
  refine W.widen (k := 0) (n := 0) (by decide) (by decide) ?_
  rcases hp3 with ⟨rfl, f4⟩ | ⟨rfl, f5, f6⟩ | ⟨rfl, f7, f8⟩
  · refine lv_if_eq (tgt := 14) hx hb dX8_paste_4 (by decide) (fun _ => ?_) (fun c => absurd (by decide) c)
    refine lv_bipush (v := (-2)) hx hb dX8_paste_14 (by decide) ?_
    have hP9 := hP.sub (ws' := []) [] rfl
    have hD9 := hD.sub (ws' := []) [] (by decide) rfl
    exact z_iret () hx hb hr hlocks hK hP9 hD9 hS hAe hQ rfl (Or.inl (⟨rfl, f4⟩)) dX8_paste_16
  · refine lv_if_eq (tgt := 14) hx hb dX8_paste_4 (by decide) (fun _ => ?_) (fun c => absurd (by decide) c)
    refine lv_bipush (v := (-2)) hx hb dX8_paste_14 (by decide) ?_
    have hP9 := hP.sub (ws' := []) [] rfl
    have hD9 := hD.sub (ws' := []) [] (by decide) rfl
    exact z_iret () hx hb hr hlocks hK hP9 hD9 hS hAe hQ rfl (Or.inr (Or.inl ⟨rfl, f5, f6⟩)) dX8_paste_16
  · refine lv_if_eq (tgt := 14) hx hb dX8_paste_4 (by decide) (fun c => absurd c (by decide)) (fun _ => ?_)
    refine lv_iload_n hx hb dX8_paste_7 rfl (lv_at hl 3 rfl) ?_
    refine z_fini (w' := fun (u9 : Unit) => [(ad 0, .inr (8, xf0 ad)), (ad 44, .inl (cQ, 4, .inr (.inr (.inr (.inr (va_up (va_up (va_up (va_up (fun _ => none) (Int32.toNatClampNeg 0) (some (ad 45))) (Int32.toNatClampNeg 1) (some (ad 47))) (Int32.toNatClampNeg 2) (some (ad 49))) (Int32.toNatClampNeg 3) (some (ad 51)))))))), (ad 45, .inr (4, xf45 ad)), (ad 47, .inr (4, xf47 ad)), (ad 49, .inr (4, xf49 ad)), (ad 51, .inr (4, xf51 ad))]) (va_runS (As := [.int p3]) (rest := []) ⟨hx, hb, hml, hown, hts⟩ (c_X8_isSlot_110 l dC dI cB cI cJ cZ cP cQ H.size p3) (va_cwS 1 hts gX8_paste_X8_isSlot rfl rfl rfl (by decide +kernel) ⟨Nat.le_of_ble_eq_true rfl, Nat.le_of_ble_eq_true rfl⟩) (z_pS hK hP hD zX_nil [] (by decide) rfl) rfl rfl hl.1 rfl (lv_room (Nat.le_of_ble_eq_true rfl)) dX8_paste_8 ⟨Nat.le_of_ble_eq_true rfl, Nat.le_of_ble_eq_true rfl⟩) hP hD hS hA [] [0, 1, 2, 3, 4, 5] [0, 1, 2, 3, 4, 5] rfl rfl (by decide) (by decide) (fun _ => rfl) (by decide) (fun r10 u9 H locs hp11 hP hD hS => ?_)
    have hP : va_P (dC, dI) vwCl [(ad 0, .inr (8, xf0 ad)), (ad 44, .inl (cQ, 4, .inr (.inr (.inr (.inr (va_up (va_up (va_up (va_up (fun _ => none) (Int32.toNatClampNeg 0) (some (ad 45))) (Int32.toNatClampNeg 1) (some (ad 47))) (Int32.toNatClampNeg 2) (some (ad 49))) (Int32.toNatClampNeg 3) (some (ad 51)))))))), (ad 45, .inr (4, xf45 ad)), (ad 47, .inr (4, xf47 ad)), (ad 49, .inr (4, xf49 ad)), (ad 51, .inr (4, xf51 ad))] H := hP
    have hD : va_D A [(ad 0, .inr (8, xf0 ad)), (ad 44, .inl (cQ, 4, .inr (.inr (.inr (.inr (va_up (va_up (va_up (va_up (fun _ => none) (Int32.toNatClampNeg 0) (some (ad 45))) (Int32.toNatClampNeg 1) (some (ad 47))) (Int32.toNatClampNeg 2) (some (ad 49))) (Int32.toNatClampNeg 3) (some (ad 51)))))))), (ad 45, .inr (4, xf45 ad)), (ad 47, .inr (4, xf47 ad)), (ad 49, .inr (4, xf49 ad)), (ad 51, .inr (4, xf51 ad))] := hD
    refine W.widen (k := 0) (n := 0) (by decide) (by decide) ?_
    rcases hp11 with ⟨rfl, f12⟩ | ⟨rfl, f13, f14⟩ | ⟨rfl, f15, f16⟩
    · refine lv_if_ne (tgt := 17) hx hb dX8_paste_11 (by decide) (fun c => absurd (by decide) c) (fun _ => ?_)
      refine lv_bipush (v := (-2)) hx hb dX8_paste_14 (by decide) ?_
      have hP9 := hP.sub (ws' := []) [] rfl
      have hD9 := hD.sub (ws' := []) [] (by decide) rfl
      exact z_iret () hx hb hr hlocks hK hP9 hD9 hS hAe hQ rfl (Or.inr (Or.inr (Or.inl ⟨rfl, f7, f8, f12⟩))) dX8_paste_16
    · refine lv_if_ne (tgt := 17) hx hb dX8_paste_11 (by decide) (fun c => absurd (by decide) c) (fun _ => ?_)
      refine lv_bipush (v := (-2)) hx hb dX8_paste_14 (by decide) ?_
      have hP9 := hP.sub (ws' := []) [] rfl
      have hD9 := hD.sub (ws' := []) [] (by decide) rfl
      exact z_iret () hx hb hr hlocks hK hP9 hD9 hS hAe hQ rfl (Or.inr (Or.inr (Or.inr (Or.inl ⟨rfl, f7, f8, f13, f14⟩)))) dX8_paste_16
    · refine lv_if_ne (tgt := 17) hx hb dX8_paste_11 (by decide) (fun _ => ?_) (fun c => absurd c (by decide))
      refine lv_aload_n hx hb dX8_paste_17 rfl (lv_at hl 0 rfl) ?_
      refine va_get (D := (dC, dI)) (ci := 8) (v := .ref (ad 44)) (C := RX8) (T := TX8) (N := 10) hx hb hts hi8 hown hK hP 0 rfl rfl 9 (by decide) hk0 (fun _ h9 => h9) rfl dX8_paste_18 ?_
      refine lv_iload_n hx hb dX8_paste_21 rfl (lv_at hl 1 rfl) ?_
      obtain rfl | rfl | rfl | rfl : p1 = 0 ∨ p1 = 1 ∨ p1 = 2 ∨ p1 = 3 := z_cases4  (by omega) (by omega)
      · have hP : va_P (dC, dI) vwCl [(ad 0, .inr (8, xf0 ad)), (ad 44, .inl (cQ, 4, .inr (.inr (.inr (.inr (va_up (va_up (va_up (va_up (fun _ => none) (Int32.toNatClampNeg 0) (some (ad 45))) (Int32.toNatClampNeg 1) (some (ad 47))) (Int32.toNatClampNeg 2) (some (ad 49))) (Int32.toNatClampNeg 3) (some (ad 51)))))))), (ad 45, .inr (4, xf45 ad)), (ad 47, .inr (4, xf47 ad)), (ad 49, .inr (4, xf49 ad)), (ad 51, .inr (4, xf51 ad))] H := by assumption
        have hD : va_D A [(ad 0, .inr (8, xf0 ad)), (ad 44, .inl (cQ, 4, .inr (.inr (.inr (.inr (va_up (va_up (va_up (va_up (fun _ => none) (Int32.toNatClampNeg 0) (some (ad 45))) (Int32.toNatClampNeg 1) (some (ad 47))) (Int32.toNatClampNeg 2) (some (ad 49))) (Int32.toNatClampNeg 3) (some (ad 51)))))))), (ad 45, .inr (4, xf45 ad)), (ad 47, .inr (4, xf47 ad)), (ad 49, .inr (4, xf49 ad)), (ad 51, .inr (4, xf51 ad))] := by assumption
        refine va_aldq hx hb hK hP 1 5 rfl rfl (z_in (a := 0) (by decide) (by decide) (by decide)) dX8_paste_22 ?_
        refine W.eq (g2 := F0 m 23 ls [.ref (ad 45)]) rfl ?_
        refine lv_astore (lv' := [(6, .ref (ad 45)), (0, .ref (ad 0)), (1, .int 0), (2, .int p2), (3, .int p3), (4, .int p4), (5, .int p5)]) hx hb dX8_paste_23 hl (by decide) rfl (fun ls hl => ?_)
        refine lv_aload_n hx hb dX8_paste_25 rfl (lv_at hl 1 rfl) ?_
        refine va_get (D := (dC, dI)) (ci := 8) (v := .ref (ad 44)) (C := RX8) (T := TX8) (N := 10) hx hb hts hi8 hown hK hP 0 rfl rfl 9 (by decide) hk0 (fun _ h9 => h9) rfl dX8_paste_26 ?_
        refine lv_iload_n hx hb dX8_paste_29 rfl (lv_at hl 4 rfl) ?_
        obtain rfl | rfl | rfl | rfl : p3 = 0 ∨ p3 = 1 ∨ p3 = 2 ∨ p3 = 3 := z_cases4  (by omega) (by omega)
        · have hP : va_P (dC, dI) vwCl [(ad 0, .inr (8, xf0 ad)), (ad 44, .inl (cQ, 4, .inr (.inr (.inr (.inr (va_up (va_up (va_up (va_up (fun _ => none) (Int32.toNatClampNeg 0) (some (ad 45))) (Int32.toNatClampNeg 1) (some (ad 47))) (Int32.toNatClampNeg 2) (some (ad 49))) (Int32.toNatClampNeg 3) (some (ad 51)))))))), (ad 45, .inr (4, xf45 ad)), (ad 47, .inr (4, xf47 ad)), (ad 49, .inr (4, xf49 ad)), (ad 51, .inr (4, xf51 ad))] H := by assumption
          have hD : va_D A [(ad 0, .inr (8, xf0 ad)), (ad 44, .inl (cQ, 4, .inr (.inr (.inr (.inr (va_up (va_up (va_up (va_up (fun _ => none) (Int32.toNatClampNeg 0) (some (ad 45))) (Int32.toNatClampNeg 1) (some (ad 47))) (Int32.toNatClampNeg 2) (some (ad 49))) (Int32.toNatClampNeg 3) (some (ad 51)))))))), (ad 45, .inr (4, xf45 ad)), (ad 47, .inr (4, xf47 ad)), (ad 49, .inr (4, xf49 ad)), (ad 51, .inr (4, xf51 ad))] := by assumption
          refine va_aldq hx hb hK hP 1 5 rfl rfl (z_in (a := 0) (by decide) (by decide) (by decide)) dX8_paste_30 ?_
          refine W.eq (g2 := F0 m 31 ls [.ref (ad 45)]) rfl ?_
          refine lv_astore (lv' := [(7, .ref (ad 45)), (6, .ref (ad 45)), (0, .ref (ad 0)), (1, .int 0), (2, .int p2), (3, .int 0), (4, .int p4), (5, .int p5)]) hx hb dX8_paste_31 hl (by decide) rfl (fun ls hl => ?_)
          refine lv_aload hx hb dX8_paste_33 (lv_at hl 1 rfl) ?_
          refine z_fini (w' := fun (u17 : Unit) => [(ad 0, .inr (8, xf0 ad)), (ad 44, .inl (cQ, 4, .inr (.inr (.inr (.inr (va_up (va_up (va_up (va_up (fun _ => none) (Int32.toNatClampNeg 0) (some (ad 45))) (Int32.toNatClampNeg 1) (some (ad 47))) (Int32.toNatClampNeg 2) (some (ad 49))) (Int32.toNatClampNeg 3) (some (ad 51)))))))), (ad 45, .inr (4, xf45 ad)), (ad 47, .inr (4, xf47 ad)), (ad 49, .inr (4, xf49 ad)), (ad 51, .inr (4, xf51 ad))]) (va_runV (As := []) (rest := []) ⟨hx, hb, hml, hown, hts⟩ (c_X4_stands_111 l dC dI cB cI cJ cZ cP cQ ad H.size) (cwV 0 hts gX8_paste_X4_stands rfl rfl rfl (by decide +kernel) ⟨Nat.le_of_ble_eq_true rfl, Nat.le_of_ble_eq_true rfl⟩) (z_pV (ci := 4) hK hP hD zX_nil [2] (by decide) rfl rfl 2 rfl) rfl rfl hl.1 rfl (lv_room (Nat.le_of_ble_eq_true rfl)) dX8_paste_35 ⟨Nat.le_of_ble_eq_true rfl, Nat.le_of_ble_eq_true rfl⟩) hP hD hS hA [2] [0, 1, 3, 4, 5] [0, 1, 5, 2, 3, 4] rfl rfl (by decide) (by decide) (fun _ => rfl) (by decide) (fun r18 u17 H locs hp19 hP hD hS => ?_)
          have hP : va_P (dC, dI) vwCl [(ad 0, .inr (8, xf0 ad)), (ad 44, .inl (cQ, 4, .inr (.inr (.inr (.inr (va_up (va_up (va_up (va_up (fun _ => none) (Int32.toNatClampNeg 0) (some (ad 45))) (Int32.toNatClampNeg 1) (some (ad 47))) (Int32.toNatClampNeg 2) (some (ad 49))) (Int32.toNatClampNeg 3) (some (ad 51)))))))), (ad 45, .inr (4, xf45 ad)), (ad 47, .inr (4, xf47 ad)), (ad 49, .inr (4, xf49 ad)), (ad 51, .inr (4, xf51 ad))] H := hP
          have hD : va_D A [(ad 0, .inr (8, xf0 ad)), (ad 44, .inl (cQ, 4, .inr (.inr (.inr (.inr (va_up (va_up (va_up (va_up (fun _ => none) (Int32.toNatClampNeg 0) (some (ad 45))) (Int32.toNatClampNeg 1) (some (ad 47))) (Int32.toNatClampNeg 2) (some (ad 49))) (Int32.toNatClampNeg 3) (some (ad 51)))))))), (ad 45, .inr (4, xf45 ad)), (ad 47, .inr (4, xf47 ad)), (ad 49, .inr (4, xf49 ad)), (ad 51, .inr (4, xf51 ad))] := hD
          refine W.widen (k := 0) (n := 0) (by decide) (by decide) ?_
          obtain rfl : r18 = 0 := hp19
          refine lv_if_eq (tgt := 49) hx hb dX8_paste_38 (by decide) (fun _ => ?_) (fun c => absurd (by decide) c)
          refine lv_bipush (v := (-6)) hx hb dX8_paste_49 (by decide) ?_
          have hP9 := hP.sub (ws' := []) [] rfl
          have hD9 := hD.sub (ws' := []) [] (by decide) rfl
          exact z_iret () hx hb hr hlocks hK hP9 hD9 hS hAe hQ rfl (Or.inr (Or.inr (Or.inr (Or.inr ⟨rfl, f7, f8, f15, f16⟩)))) dX8_paste_51
        · have hP : va_P (dC, dI) vwCl [(ad 0, .inr (8, xf0 ad)), (ad 44, .inl (cQ, 4, .inr (.inr (.inr (.inr (va_up (va_up (va_up (va_up (fun _ => none) (Int32.toNatClampNeg 0) (some (ad 45))) (Int32.toNatClampNeg 1) (some (ad 47))) (Int32.toNatClampNeg 2) (some (ad 49))) (Int32.toNatClampNeg 3) (some (ad 51)))))))), (ad 45, .inr (4, xf45 ad)), (ad 47, .inr (4, xf47 ad)), (ad 49, .inr (4, xf49 ad)), (ad 51, .inr (4, xf51 ad))] H := by assumption
          have hD : va_D A [(ad 0, .inr (8, xf0 ad)), (ad 44, .inl (cQ, 4, .inr (.inr (.inr (.inr (va_up (va_up (va_up (va_up (fun _ => none) (Int32.toNatClampNeg 0) (some (ad 45))) (Int32.toNatClampNeg 1) (some (ad 47))) (Int32.toNatClampNeg 2) (some (ad 49))) (Int32.toNatClampNeg 3) (some (ad 51)))))))), (ad 45, .inr (4, xf45 ad)), (ad 47, .inr (4, xf47 ad)), (ad 49, .inr (4, xf49 ad)), (ad 51, .inr (4, xf51 ad))] := by assumption
          refine va_aldq hx hb hK hP 1 5 rfl rfl (z_in (a := 1) (by decide) (by decide) (by decide)) dX8_paste_30 ?_
          refine W.eq (g2 := F0 m 31 ls [.ref (ad 47)]) rfl ?_
          refine lv_astore (lv' := [(7, .ref (ad 47)), (6, .ref (ad 45)), (0, .ref (ad 0)), (1, .int 0), (2, .int p2), (3, .int 1), (4, .int p4), (5, .int p5)]) hx hb dX8_paste_31 hl (by decide) rfl (fun ls hl => ?_)
          refine lv_aload hx hb dX8_paste_33 (lv_at hl 1 rfl) ?_
          refine z_fini (w' := fun (u20 : Unit) => [(ad 0, .inr (8, xf0 ad)), (ad 44, .inl (cQ, 4, .inr (.inr (.inr (.inr (va_up (va_up (va_up (va_up (fun _ => none) (Int32.toNatClampNeg 0) (some (ad 45))) (Int32.toNatClampNeg 1) (some (ad 47))) (Int32.toNatClampNeg 2) (some (ad 49))) (Int32.toNatClampNeg 3) (some (ad 51)))))))), (ad 45, .inr (4, xf45 ad)), (ad 47, .inr (4, xf47 ad)), (ad 49, .inr (4, xf49 ad)), (ad 51, .inr (4, xf51 ad))]) (va_runV (As := []) (rest := []) ⟨hx, hb, hml, hown, hts⟩ (c_X4_stands_111 l dC dI cB cI cJ cZ cP cQ ad H.size) (cwV 0 hts gX8_paste_X4_stands rfl rfl rfl (by decide +kernel) ⟨Nat.le_of_ble_eq_true rfl, Nat.le_of_ble_eq_true rfl⟩) (z_pV (ci := 4) hK hP hD zX_nil [2] (by decide) rfl rfl 2 rfl) rfl rfl hl.1 rfl (lv_room (Nat.le_of_ble_eq_true rfl)) dX8_paste_35 ⟨Nat.le_of_ble_eq_true rfl, Nat.le_of_ble_eq_true rfl⟩) hP hD hS hA [2] [0, 1, 3, 4, 5] [0, 1, 5, 2, 3, 4] rfl rfl (by decide) (by decide) (fun _ => rfl) (by decide) (fun r21 u20 H locs hp22 hP hD hS => ?_)
          have hP : va_P (dC, dI) vwCl [(ad 0, .inr (8, xf0 ad)), (ad 44, .inl (cQ, 4, .inr (.inr (.inr (.inr (va_up (va_up (va_up (va_up (fun _ => none) (Int32.toNatClampNeg 0) (some (ad 45))) (Int32.toNatClampNeg 1) (some (ad 47))) (Int32.toNatClampNeg 2) (some (ad 49))) (Int32.toNatClampNeg 3) (some (ad 51)))))))), (ad 45, .inr (4, xf45 ad)), (ad 47, .inr (4, xf47 ad)), (ad 49, .inr (4, xf49 ad)), (ad 51, .inr (4, xf51 ad))] H := hP
          have hD : va_D A [(ad 0, .inr (8, xf0 ad)), (ad 44, .inl (cQ, 4, .inr (.inr (.inr (.inr (va_up (va_up (va_up (va_up (fun _ => none) (Int32.toNatClampNeg 0) (some (ad 45))) (Int32.toNatClampNeg 1) (some (ad 47))) (Int32.toNatClampNeg 2) (some (ad 49))) (Int32.toNatClampNeg 3) (some (ad 51)))))))), (ad 45, .inr (4, xf45 ad)), (ad 47, .inr (4, xf47 ad)), (ad 49, .inr (4, xf49 ad)), (ad 51, .inr (4, xf51 ad))] := hD
          refine W.widen (k := 0) (n := 0) (by decide) (by decide) ?_
          obtain rfl : r21 = 0 := hp22
          refine lv_if_eq (tgt := 49) hx hb dX8_paste_38 (by decide) (fun _ => ?_) (fun c => absurd (by decide) c)
          refine lv_bipush (v := (-6)) hx hb dX8_paste_49 (by decide) ?_
          have hP9 := hP.sub (ws' := []) [] rfl
          have hD9 := hD.sub (ws' := []) [] (by decide) rfl
          exact z_iret () hx hb hr hlocks hK hP9 hD9 hS hAe hQ rfl (Or.inr (Or.inr (Or.inr (Or.inr ⟨rfl, f7, f8, f15, f16⟩)))) dX8_paste_51
        · have hP : va_P (dC, dI) vwCl [(ad 0, .inr (8, xf0 ad)), (ad 44, .inl (cQ, 4, .inr (.inr (.inr (.inr (va_up (va_up (va_up (va_up (fun _ => none) (Int32.toNatClampNeg 0) (some (ad 45))) (Int32.toNatClampNeg 1) (some (ad 47))) (Int32.toNatClampNeg 2) (some (ad 49))) (Int32.toNatClampNeg 3) (some (ad 51)))))))), (ad 45, .inr (4, xf45 ad)), (ad 47, .inr (4, xf47 ad)), (ad 49, .inr (4, xf49 ad)), (ad 51, .inr (4, xf51 ad))] H := by assumption
          have hD : va_D A [(ad 0, .inr (8, xf0 ad)), (ad 44, .inl (cQ, 4, .inr (.inr (.inr (.inr (va_up (va_up (va_up (va_up (fun _ => none) (Int32.toNatClampNeg 0) (some (ad 45))) (Int32.toNatClampNeg 1) (some (ad 47))) (Int32.toNatClampNeg 2) (some (ad 49))) (Int32.toNatClampNeg 3) (some (ad 51)))))))), (ad 45, .inr (4, xf45 ad)), (ad 47, .inr (4, xf47 ad)), (ad 49, .inr (4, xf49 ad)), (ad 51, .inr (4, xf51 ad))] := by assumption
          refine va_aldq hx hb hK hP 1 5 rfl rfl (z_in (a := 2) (by decide) (by decide) (by decide)) dX8_paste_30 ?_
          refine W.eq (g2 := F0 m 31 ls [.ref (ad 49)]) rfl ?_
          refine lv_astore (lv' := [(7, .ref (ad 49)), (6, .ref (ad 45)), (0, .ref (ad 0)), (1, .int 0), (2, .int p2), (3, .int 2), (4, .int p4), (5, .int p5)]) hx hb dX8_paste_31 hl (by decide) rfl (fun ls hl => ?_)
          refine lv_aload hx hb dX8_paste_33 (lv_at hl 1 rfl) ?_
          refine z_fini (w' := fun (u23 : Unit) => [(ad 0, .inr (8, xf0 ad)), (ad 44, .inl (cQ, 4, .inr (.inr (.inr (.inr (va_up (va_up (va_up (va_up (fun _ => none) (Int32.toNatClampNeg 0) (some (ad 45))) (Int32.toNatClampNeg 1) (some (ad 47))) (Int32.toNatClampNeg 2) (some (ad 49))) (Int32.toNatClampNeg 3) (some (ad 51)))))))), (ad 45, .inr (4, xf45 ad)), (ad 47, .inr (4, xf47 ad)), (ad 49, .inr (4, xf49 ad)), (ad 51, .inr (4, xf51 ad))]) (va_runV (As := []) (rest := []) ⟨hx, hb, hml, hown, hts⟩ (c_X4_stands_111 l dC dI cB cI cJ cZ cP cQ ad H.size) (cwV 0 hts gX8_paste_X4_stands rfl rfl rfl (by decide +kernel) ⟨Nat.le_of_ble_eq_true rfl, Nat.le_of_ble_eq_true rfl⟩) (z_pV (ci := 4) hK hP hD zX_nil [2] (by decide) rfl rfl 2 rfl) rfl rfl hl.1 rfl (lv_room (Nat.le_of_ble_eq_true rfl)) dX8_paste_35 ⟨Nat.le_of_ble_eq_true rfl, Nat.le_of_ble_eq_true rfl⟩) hP hD hS hA [2] [0, 1, 3, 4, 5] [0, 1, 5, 2, 3, 4] rfl rfl (by decide) (by decide) (fun _ => rfl) (by decide) (fun r24 u23 H locs hp25 hP hD hS => ?_)
          have hP : va_P (dC, dI) vwCl [(ad 0, .inr (8, xf0 ad)), (ad 44, .inl (cQ, 4, .inr (.inr (.inr (.inr (va_up (va_up (va_up (va_up (fun _ => none) (Int32.toNatClampNeg 0) (some (ad 45))) (Int32.toNatClampNeg 1) (some (ad 47))) (Int32.toNatClampNeg 2) (some (ad 49))) (Int32.toNatClampNeg 3) (some (ad 51)))))))), (ad 45, .inr (4, xf45 ad)), (ad 47, .inr (4, xf47 ad)), (ad 49, .inr (4, xf49 ad)), (ad 51, .inr (4, xf51 ad))] H := hP
          have hD : va_D A [(ad 0, .inr (8, xf0 ad)), (ad 44, .inl (cQ, 4, .inr (.inr (.inr (.inr (va_up (va_up (va_up (va_up (fun _ => none) (Int32.toNatClampNeg 0) (some (ad 45))) (Int32.toNatClampNeg 1) (some (ad 47))) (Int32.toNatClampNeg 2) (some (ad 49))) (Int32.toNatClampNeg 3) (some (ad 51)))))))), (ad 45, .inr (4, xf45 ad)), (ad 47, .inr (4, xf47 ad)), (ad 49, .inr (4, xf49 ad)), (ad 51, .inr (4, xf51 ad))] := hD
          refine W.widen (k := 0) (n := 0) (by decide) (by decide) ?_
          obtain rfl : r24 = 0 := hp25
          refine lv_if_eq (tgt := 49) hx hb dX8_paste_38 (by decide) (fun _ => ?_) (fun c => absurd (by decide) c)
          refine lv_bipush (v := (-6)) hx hb dX8_paste_49 (by decide) ?_
          have hP9 := hP.sub (ws' := []) [] rfl
          have hD9 := hD.sub (ws' := []) [] (by decide) rfl
          exact z_iret () hx hb hr hlocks hK hP9 hD9 hS hAe hQ rfl (Or.inr (Or.inr (Or.inr (Or.inr ⟨rfl, f7, f8, f15, f16⟩)))) dX8_paste_51
        · have hP : va_P (dC, dI) vwCl [(ad 0, .inr (8, xf0 ad)), (ad 44, .inl (cQ, 4, .inr (.inr (.inr (.inr (va_up (va_up (va_up (va_up (fun _ => none) (Int32.toNatClampNeg 0) (some (ad 45))) (Int32.toNatClampNeg 1) (some (ad 47))) (Int32.toNatClampNeg 2) (some (ad 49))) (Int32.toNatClampNeg 3) (some (ad 51)))))))), (ad 45, .inr (4, xf45 ad)), (ad 47, .inr (4, xf47 ad)), (ad 49, .inr (4, xf49 ad)), (ad 51, .inr (4, xf51 ad))] H := by assumption
          have hD : va_D A [(ad 0, .inr (8, xf0 ad)), (ad 44, .inl (cQ, 4, .inr (.inr (.inr (.inr (va_up (va_up (va_up (va_up (fun _ => none) (Int32.toNatClampNeg 0) (some (ad 45))) (Int32.toNatClampNeg 1) (some (ad 47))) (Int32.toNatClampNeg 2) (some (ad 49))) (Int32.toNatClampNeg 3) (some (ad 51)))))))), (ad 45, .inr (4, xf45 ad)), (ad 47, .inr (4, xf47 ad)), (ad 49, .inr (4, xf49 ad)), (ad 51, .inr (4, xf51 ad))] := by assumption
          refine va_aldq hx hb hK hP 1 5 rfl rfl (z_in (a := 3) (by decide) (by decide) (by decide)) dX8_paste_30 ?_
          refine W.eq (g2 := F0 m 31 ls [.ref (ad 51)]) rfl ?_
          refine lv_astore (lv' := [(7, .ref (ad 51)), (6, .ref (ad 45)), (0, .ref (ad 0)), (1, .int 0), (2, .int p2), (3, .int 3), (4, .int p4), (5, .int p5)]) hx hb dX8_paste_31 hl (by decide) rfl (fun ls hl => ?_)
          refine lv_aload hx hb dX8_paste_33 (lv_at hl 1 rfl) ?_
          refine z_fini (w' := fun (u26 : Unit) => [(ad 0, .inr (8, xf0 ad)), (ad 44, .inl (cQ, 4, .inr (.inr (.inr (.inr (va_up (va_up (va_up (va_up (fun _ => none) (Int32.toNatClampNeg 0) (some (ad 45))) (Int32.toNatClampNeg 1) (some (ad 47))) (Int32.toNatClampNeg 2) (some (ad 49))) (Int32.toNatClampNeg 3) (some (ad 51)))))))), (ad 45, .inr (4, xf45 ad)), (ad 47, .inr (4, xf47 ad)), (ad 49, .inr (4, xf49 ad)), (ad 51, .inr (4, xf51 ad))]) (va_runV (As := []) (rest := []) ⟨hx, hb, hml, hown, hts⟩ (c_X4_stands_111 l dC dI cB cI cJ cZ cP cQ ad H.size) (cwV 0 hts gX8_paste_X4_stands rfl rfl rfl (by decide +kernel) ⟨Nat.le_of_ble_eq_true rfl, Nat.le_of_ble_eq_true rfl⟩) (z_pV (ci := 4) hK hP hD zX_nil [2] (by decide) rfl rfl 2 rfl) rfl rfl hl.1 rfl (lv_room (Nat.le_of_ble_eq_true rfl)) dX8_paste_35 ⟨Nat.le_of_ble_eq_true rfl, Nat.le_of_ble_eq_true rfl⟩) hP hD hS hA [2] [0, 1, 3, 4, 5] [0, 1, 5, 2, 3, 4] rfl rfl (by decide) (by decide) (fun _ => rfl) (by decide) (fun r27 u26 H locs hp28 hP hD hS => ?_)
          have hP : va_P (dC, dI) vwCl [(ad 0, .inr (8, xf0 ad)), (ad 44, .inl (cQ, 4, .inr (.inr (.inr (.inr (va_up (va_up (va_up (va_up (fun _ => none) (Int32.toNatClampNeg 0) (some (ad 45))) (Int32.toNatClampNeg 1) (some (ad 47))) (Int32.toNatClampNeg 2) (some (ad 49))) (Int32.toNatClampNeg 3) (some (ad 51)))))))), (ad 45, .inr (4, xf45 ad)), (ad 47, .inr (4, xf47 ad)), (ad 49, .inr (4, xf49 ad)), (ad 51, .inr (4, xf51 ad))] H := hP
          have hD : va_D A [(ad 0, .inr (8, xf0 ad)), (ad 44, .inl (cQ, 4, .inr (.inr (.inr (.inr (va_up (va_up (va_up (va_up (fun _ => none) (Int32.toNatClampNeg 0) (some (ad 45))) (Int32.toNatClampNeg 1) (some (ad 47))) (Int32.toNatClampNeg 2) (some (ad 49))) (Int32.toNatClampNeg 3) (some (ad 51)))))))), (ad 45, .inr (4, xf45 ad)), (ad 47, .inr (4, xf47 ad)), (ad 49, .inr (4, xf49 ad)), (ad 51, .inr (4, xf51 ad))] := hD
          refine W.widen (k := 0) (n := 0) (by decide) (by decide) ?_
          obtain rfl : r27 = 0 := hp28
          refine lv_if_eq (tgt := 49) hx hb dX8_paste_38 (by decide) (fun _ => ?_) (fun c => absurd (by decide) c)
          refine lv_bipush (v := (-6)) hx hb dX8_paste_49 (by decide) ?_
          have hP9 := hP.sub (ws' := []) [] rfl
          have hD9 := hD.sub (ws' := []) [] (by decide) rfl
          exact z_iret () hx hb hr hlocks hK hP9 hD9 hS hAe hQ rfl (Or.inr (Or.inr (Or.inr (Or.inr ⟨rfl, f7, f8, f15, f16⟩)))) dX8_paste_51
      · have hP : va_P (dC, dI) vwCl [(ad 0, .inr (8, xf0 ad)), (ad 44, .inl (cQ, 4, .inr (.inr (.inr (.inr (va_up (va_up (va_up (va_up (fun _ => none) (Int32.toNatClampNeg 0) (some (ad 45))) (Int32.toNatClampNeg 1) (some (ad 47))) (Int32.toNatClampNeg 2) (some (ad 49))) (Int32.toNatClampNeg 3) (some (ad 51)))))))), (ad 45, .inr (4, xf45 ad)), (ad 47, .inr (4, xf47 ad)), (ad 49, .inr (4, xf49 ad)), (ad 51, .inr (4, xf51 ad))] H := by assumption
        have hD : va_D A [(ad 0, .inr (8, xf0 ad)), (ad 44, .inl (cQ, 4, .inr (.inr (.inr (.inr (va_up (va_up (va_up (va_up (fun _ => none) (Int32.toNatClampNeg 0) (some (ad 45))) (Int32.toNatClampNeg 1) (some (ad 47))) (Int32.toNatClampNeg 2) (some (ad 49))) (Int32.toNatClampNeg 3) (some (ad 51)))))))), (ad 45, .inr (4, xf45 ad)), (ad 47, .inr (4, xf47 ad)), (ad 49, .inr (4, xf49 ad)), (ad 51, .inr (4, xf51 ad))] := by assumption
        refine va_aldq hx hb hK hP 1 5 rfl rfl (z_in (a := 1) (by decide) (by decide) (by decide)) dX8_paste_22 ?_
        refine W.eq (g2 := F0 m 23 ls [.ref (ad 47)]) rfl ?_
        refine lv_astore (lv' := [(6, .ref (ad 47)), (0, .ref (ad 0)), (1, .int 1), (2, .int p2), (3, .int p3), (4, .int p4), (5, .int p5)]) hx hb dX8_paste_23 hl (by decide) rfl (fun ls hl => ?_)
        refine lv_aload_n hx hb dX8_paste_25 rfl (lv_at hl 1 rfl) ?_
        refine va_get (D := (dC, dI)) (ci := 8) (v := .ref (ad 44)) (C := RX8) (T := TX8) (N := 10) hx hb hts hi8 hown hK hP 0 rfl rfl 9 (by decide) hk0 (fun _ h9 => h9) rfl dX8_paste_26 ?_
        refine lv_iload_n hx hb dX8_paste_29 rfl (lv_at hl 4 rfl) ?_
        obtain rfl | rfl | rfl | rfl : p3 = 0 ∨ p3 = 1 ∨ p3 = 2 ∨ p3 = 3 := z_cases4  (by omega) (by omega)
        · have hP : va_P (dC, dI) vwCl [(ad 0, .inr (8, xf0 ad)), (ad 44, .inl (cQ, 4, .inr (.inr (.inr (.inr (va_up (va_up (va_up (va_up (fun _ => none) (Int32.toNatClampNeg 0) (some (ad 45))) (Int32.toNatClampNeg 1) (some (ad 47))) (Int32.toNatClampNeg 2) (some (ad 49))) (Int32.toNatClampNeg 3) (some (ad 51)))))))), (ad 45, .inr (4, xf45 ad)), (ad 47, .inr (4, xf47 ad)), (ad 49, .inr (4, xf49 ad)), (ad 51, .inr (4, xf51 ad))] H := by assumption
          have hD : va_D A [(ad 0, .inr (8, xf0 ad)), (ad 44, .inl (cQ, 4, .inr (.inr (.inr (.inr (va_up (va_up (va_up (va_up (fun _ => none) (Int32.toNatClampNeg 0) (some (ad 45))) (Int32.toNatClampNeg 1) (some (ad 47))) (Int32.toNatClampNeg 2) (some (ad 49))) (Int32.toNatClampNeg 3) (some (ad 51)))))))), (ad 45, .inr (4, xf45 ad)), (ad 47, .inr (4, xf47 ad)), (ad 49, .inr (4, xf49 ad)), (ad 51, .inr (4, xf51 ad))] := by assumption
          refine va_aldq hx hb hK hP 1 5 rfl rfl (z_in (a := 0) (by decide) (by decide) (by decide)) dX8_paste_30 ?_
          refine W.eq (g2 := F0 m 31 ls [.ref (ad 45)]) rfl ?_
          refine lv_astore (lv' := [(7, .ref (ad 45)), (6, .ref (ad 47)), (0, .ref (ad 0)), (1, .int 1), (2, .int p2), (3, .int 0), (4, .int p4), (5, .int p5)]) hx hb dX8_paste_31 hl (by decide) rfl (fun ls hl => ?_)
          refine lv_aload hx hb dX8_paste_33 (lv_at hl 1 rfl) ?_
          refine z_fini (w' := fun (u29 : Unit) => [(ad 0, .inr (8, xf0 ad)), (ad 44, .inl (cQ, 4, .inr (.inr (.inr (.inr (va_up (va_up (va_up (va_up (fun _ => none) (Int32.toNatClampNeg 0) (some (ad 45))) (Int32.toNatClampNeg 1) (some (ad 47))) (Int32.toNatClampNeg 2) (some (ad 49))) (Int32.toNatClampNeg 3) (some (ad 51)))))))), (ad 45, .inr (4, xf45 ad)), (ad 47, .inr (4, xf47 ad)), (ad 49, .inr (4, xf49 ad)), (ad 51, .inr (4, xf51 ad))]) (va_runV (As := []) (rest := []) ⟨hx, hb, hml, hown, hts⟩ (c_X4_stands_112 l dC dI cB cI cJ cZ cP cQ ad H.size) (cwV 0 hts gX8_paste_X4_stands rfl rfl rfl (by decide +kernel) ⟨Nat.le_of_ble_eq_true rfl, Nat.le_of_ble_eq_true rfl⟩) (z_pV (ci := 4) hK hP hD zX_nil [3] (by decide) rfl rfl 3 rfl) rfl rfl hl.1 rfl (lv_room (Nat.le_of_ble_eq_true rfl)) dX8_paste_35 ⟨Nat.le_of_ble_eq_true rfl, Nat.le_of_ble_eq_true rfl⟩) hP hD hS hA [3] [0, 1, 2, 4, 5] [0, 1, 2, 5, 3, 4] rfl rfl (by decide) (by decide) (fun _ => rfl) (by decide) (fun r30 u29 H locs hp31 hP hD hS => ?_)
          have hP : va_P (dC, dI) vwCl [(ad 0, .inr (8, xf0 ad)), (ad 44, .inl (cQ, 4, .inr (.inr (.inr (.inr (va_up (va_up (va_up (va_up (fun _ => none) (Int32.toNatClampNeg 0) (some (ad 45))) (Int32.toNatClampNeg 1) (some (ad 47))) (Int32.toNatClampNeg 2) (some (ad 49))) (Int32.toNatClampNeg 3) (some (ad 51)))))))), (ad 45, .inr (4, xf45 ad)), (ad 47, .inr (4, xf47 ad)), (ad 49, .inr (4, xf49 ad)), (ad 51, .inr (4, xf51 ad))] H := hP
          have hD : va_D A [(ad 0, .inr (8, xf0 ad)), (ad 44, .inl (cQ, 4, .inr (.inr (.inr (.inr (va_up (va_up (va_up (va_up (fun _ => none) (Int32.toNatClampNeg 0) (some (ad 45))) (Int32.toNatClampNeg 1) (some (ad 47))) (Int32.toNatClampNeg 2) (some (ad 49))) (Int32.toNatClampNeg 3) (some (ad 51)))))))), (ad 45, .inr (4, xf45 ad)), (ad 47, .inr (4, xf47 ad)), (ad 49, .inr (4, xf49 ad)), (ad 51, .inr (4, xf51 ad))] := hD
          refine W.widen (k := 0) (n := 0) (by decide) (by decide) ?_
          obtain rfl : r30 = 0 := hp31
          refine lv_if_eq (tgt := 49) hx hb dX8_paste_38 (by decide) (fun _ => ?_) (fun c => absurd (by decide) c)
          refine lv_bipush (v := (-6)) hx hb dX8_paste_49 (by decide) ?_
          have hP9 := hP.sub (ws' := []) [] rfl
          have hD9 := hD.sub (ws' := []) [] (by decide) rfl
          exact z_iret () hx hb hr hlocks hK hP9 hD9 hS hAe hQ rfl (Or.inr (Or.inr (Or.inr (Or.inr ⟨rfl, f7, f8, f15, f16⟩)))) dX8_paste_51
        · have hP : va_P (dC, dI) vwCl [(ad 0, .inr (8, xf0 ad)), (ad 44, .inl (cQ, 4, .inr (.inr (.inr (.inr (va_up (va_up (va_up (va_up (fun _ => none) (Int32.toNatClampNeg 0) (some (ad 45))) (Int32.toNatClampNeg 1) (some (ad 47))) (Int32.toNatClampNeg 2) (some (ad 49))) (Int32.toNatClampNeg 3) (some (ad 51)))))))), (ad 45, .inr (4, xf45 ad)), (ad 47, .inr (4, xf47 ad)), (ad 49, .inr (4, xf49 ad)), (ad 51, .inr (4, xf51 ad))] H := by assumption
          have hD : va_D A [(ad 0, .inr (8, xf0 ad)), (ad 44, .inl (cQ, 4, .inr (.inr (.inr (.inr (va_up (va_up (va_up (va_up (fun _ => none) (Int32.toNatClampNeg 0) (some (ad 45))) (Int32.toNatClampNeg 1) (some (ad 47))) (Int32.toNatClampNeg 2) (some (ad 49))) (Int32.toNatClampNeg 3) (some (ad 51)))))))), (ad 45, .inr (4, xf45 ad)), (ad 47, .inr (4, xf47 ad)), (ad 49, .inr (4, xf49 ad)), (ad 51, .inr (4, xf51 ad))] := by assumption
          refine va_aldq hx hb hK hP 1 5 rfl rfl (z_in (a := 1) (by decide) (by decide) (by decide)) dX8_paste_30 ?_
          refine W.eq (g2 := F0 m 31 ls [.ref (ad 47)]) rfl ?_
          refine lv_astore (lv' := [(7, .ref (ad 47)), (6, .ref (ad 47)), (0, .ref (ad 0)), (1, .int 1), (2, .int p2), (3, .int 1), (4, .int p4), (5, .int p5)]) hx hb dX8_paste_31 hl (by decide) rfl (fun ls hl => ?_)
          refine lv_aload hx hb dX8_paste_33 (lv_at hl 1 rfl) ?_
          refine z_fini (w' := fun (u32 : Unit) => [(ad 0, .inr (8, xf0 ad)), (ad 44, .inl (cQ, 4, .inr (.inr (.inr (.inr (va_up (va_up (va_up (va_up (fun _ => none) (Int32.toNatClampNeg 0) (some (ad 45))) (Int32.toNatClampNeg 1) (some (ad 47))) (Int32.toNatClampNeg 2) (some (ad 49))) (Int32.toNatClampNeg 3) (some (ad 51)))))))), (ad 45, .inr (4, xf45 ad)), (ad 47, .inr (4, xf47 ad)), (ad 49, .inr (4, xf49 ad)), (ad 51, .inr (4, xf51 ad))]) (va_runV (As := []) (rest := []) ⟨hx, hb, hml, hown, hts⟩ (c_X4_stands_112 l dC dI cB cI cJ cZ cP cQ ad H.size) (cwV 0 hts gX8_paste_X4_stands rfl rfl rfl (by decide +kernel) ⟨Nat.le_of_ble_eq_true rfl, Nat.le_of_ble_eq_true rfl⟩) (z_pV (ci := 4) hK hP hD zX_nil [3] (by decide) rfl rfl 3 rfl) rfl rfl hl.1 rfl (lv_room (Nat.le_of_ble_eq_true rfl)) dX8_paste_35 ⟨Nat.le_of_ble_eq_true rfl, Nat.le_of_ble_eq_true rfl⟩) hP hD hS hA [3] [0, 1, 2, 4, 5] [0, 1, 2, 5, 3, 4] rfl rfl (by decide) (by decide) (fun _ => rfl) (by decide) (fun r33 u32 H locs hp34 hP hD hS => ?_)
          have hP : va_P (dC, dI) vwCl [(ad 0, .inr (8, xf0 ad)), (ad 44, .inl (cQ, 4, .inr (.inr (.inr (.inr (va_up (va_up (va_up (va_up (fun _ => none) (Int32.toNatClampNeg 0) (some (ad 45))) (Int32.toNatClampNeg 1) (some (ad 47))) (Int32.toNatClampNeg 2) (some (ad 49))) (Int32.toNatClampNeg 3) (some (ad 51)))))))), (ad 45, .inr (4, xf45 ad)), (ad 47, .inr (4, xf47 ad)), (ad 49, .inr (4, xf49 ad)), (ad 51, .inr (4, xf51 ad))] H := hP
          have hD : va_D A [(ad 0, .inr (8, xf0 ad)), (ad 44, .inl (cQ, 4, .inr (.inr (.inr (.inr (va_up (va_up (va_up (va_up (fun _ => none) (Int32.toNatClampNeg 0) (some (ad 45))) (Int32.toNatClampNeg 1) (some (ad 47))) (Int32.toNatClampNeg 2) (some (ad 49))) (Int32.toNatClampNeg 3) (some (ad 51)))))))), (ad 45, .inr (4, xf45 ad)), (ad 47, .inr (4, xf47 ad)), (ad 49, .inr (4, xf49 ad)), (ad 51, .inr (4, xf51 ad))] := hD
          refine W.widen (k := 0) (n := 0) (by decide) (by decide) ?_
          obtain rfl : r33 = 0 := hp34
          refine lv_if_eq (tgt := 49) hx hb dX8_paste_38 (by decide) (fun _ => ?_) (fun c => absurd (by decide) c)
          refine lv_bipush (v := (-6)) hx hb dX8_paste_49 (by decide) ?_
          have hP9 := hP.sub (ws' := []) [] rfl
          have hD9 := hD.sub (ws' := []) [] (by decide) rfl
          exact z_iret () hx hb hr hlocks hK hP9 hD9 hS hAe hQ rfl (Or.inr (Or.inr (Or.inr (Or.inr ⟨rfl, f7, f8, f15, f16⟩)))) dX8_paste_51
        · have hP : va_P (dC, dI) vwCl [(ad 0, .inr (8, xf0 ad)), (ad 44, .inl (cQ, 4, .inr (.inr (.inr (.inr (va_up (va_up (va_up (va_up (fun _ => none) (Int32.toNatClampNeg 0) (some (ad 45))) (Int32.toNatClampNeg 1) (some (ad 47))) (Int32.toNatClampNeg 2) (some (ad 49))) (Int32.toNatClampNeg 3) (some (ad 51)))))))), (ad 45, .inr (4, xf45 ad)), (ad 47, .inr (4, xf47 ad)), (ad 49, .inr (4, xf49 ad)), (ad 51, .inr (4, xf51 ad))] H := by assumption
          have hD : va_D A [(ad 0, .inr (8, xf0 ad)), (ad 44, .inl (cQ, 4, .inr (.inr (.inr (.inr (va_up (va_up (va_up (va_up (fun _ => none) (Int32.toNatClampNeg 0) (some (ad 45))) (Int32.toNatClampNeg 1) (some (ad 47))) (Int32.toNatClampNeg 2) (some (ad 49))) (Int32.toNatClampNeg 3) (some (ad 51)))))))), (ad 45, .inr (4, xf45 ad)), (ad 47, .inr (4, xf47 ad)), (ad 49, .inr (4, xf49 ad)), (ad 51, .inr (4, xf51 ad))] := by assumption
          refine va_aldq hx hb hK hP 1 5 rfl rfl (z_in (a := 2) (by decide) (by decide) (by decide)) dX8_paste_30 ?_
          refine W.eq (g2 := F0 m 31 ls [.ref (ad 49)]) rfl ?_
          refine lv_astore (lv' := [(7, .ref (ad 49)), (6, .ref (ad 47)), (0, .ref (ad 0)), (1, .int 1), (2, .int p2), (3, .int 2), (4, .int p4), (5, .int p5)]) hx hb dX8_paste_31 hl (by decide) rfl (fun ls hl => ?_)
          refine lv_aload hx hb dX8_paste_33 (lv_at hl 1 rfl) ?_
          refine z_fini (w' := fun (u35 : Unit) => [(ad 0, .inr (8, xf0 ad)), (ad 44, .inl (cQ, 4, .inr (.inr (.inr (.inr (va_up (va_up (va_up (va_up (fun _ => none) (Int32.toNatClampNeg 0) (some (ad 45))) (Int32.toNatClampNeg 1) (some (ad 47))) (Int32.toNatClampNeg 2) (some (ad 49))) (Int32.toNatClampNeg 3) (some (ad 51)))))))), (ad 45, .inr (4, xf45 ad)), (ad 47, .inr (4, xf47 ad)), (ad 49, .inr (4, xf49 ad)), (ad 51, .inr (4, xf51 ad))]) (va_runV (As := []) (rest := []) ⟨hx, hb, hml, hown, hts⟩ (c_X4_stands_112 l dC dI cB cI cJ cZ cP cQ ad H.size) (cwV 0 hts gX8_paste_X4_stands rfl rfl rfl (by decide +kernel) ⟨Nat.le_of_ble_eq_true rfl, Nat.le_of_ble_eq_true rfl⟩) (z_pV (ci := 4) hK hP hD zX_nil [3] (by decide) rfl rfl 3 rfl) rfl rfl hl.1 rfl (lv_room (Nat.le_of_ble_eq_true rfl)) dX8_paste_35 ⟨Nat.le_of_ble_eq_true rfl, Nat.le_of_ble_eq_true rfl⟩) hP hD hS hA [3] [0, 1, 2, 4, 5] [0, 1, 2, 5, 3, 4] rfl rfl (by decide) (by decide) (fun _ => rfl) (by decide) (fun r36 u35 H locs hp37 hP hD hS => ?_)
          have hP : va_P (dC, dI) vwCl [(ad 0, .inr (8, xf0 ad)), (ad 44, .inl (cQ, 4, .inr (.inr (.inr (.inr (va_up (va_up (va_up (va_up (fun _ => none) (Int32.toNatClampNeg 0) (some (ad 45))) (Int32.toNatClampNeg 1) (some (ad 47))) (Int32.toNatClampNeg 2) (some (ad 49))) (Int32.toNatClampNeg 3) (some (ad 51)))))))), (ad 45, .inr (4, xf45 ad)), (ad 47, .inr (4, xf47 ad)), (ad 49, .inr (4, xf49 ad)), (ad 51, .inr (4, xf51 ad))] H := hP
          have hD : va_D A [(ad 0, .inr (8, xf0 ad)), (ad 44, .inl (cQ, 4, .inr (.inr (.inr (.inr (va_up (va_up (va_up (va_up (fun _ => none) (Int32.toNatClampNeg 0) (some (ad 45))) (Int32.toNatClampNeg 1) (some (ad 47))) (Int32.toNatClampNeg 2) (some (ad 49))) (Int32.toNatClampNeg 3) (some (ad 51)))))))), (ad 45, .inr (4, xf45 ad)), (ad 47, .inr (4, xf47 ad)), (ad 49, .inr (4, xf49 ad)), (ad 51, .inr (4, xf51 ad))] := hD
          refine W.widen (k := 0) (n := 0) (by decide) (by decide) ?_
          obtain rfl : r36 = 0 := hp37
          refine lv_if_eq (tgt := 49) hx hb dX8_paste_38 (by decide) (fun _ => ?_) (fun c => absurd (by decide) c)
          refine lv_bipush (v := (-6)) hx hb dX8_paste_49 (by decide) ?_
          have hP9 := hP.sub (ws' := []) [] rfl
          have hD9 := hD.sub (ws' := []) [] (by decide) rfl
          exact z_iret () hx hb hr hlocks hK hP9 hD9 hS hAe hQ rfl (Or.inr (Or.inr (Or.inr (Or.inr ⟨rfl, f7, f8, f15, f16⟩)))) dX8_paste_51
        · have hP : va_P (dC, dI) vwCl [(ad 0, .inr (8, xf0 ad)), (ad 44, .inl (cQ, 4, .inr (.inr (.inr (.inr (va_up (va_up (va_up (va_up (fun _ => none) (Int32.toNatClampNeg 0) (some (ad 45))) (Int32.toNatClampNeg 1) (some (ad 47))) (Int32.toNatClampNeg 2) (some (ad 49))) (Int32.toNatClampNeg 3) (some (ad 51)))))))), (ad 45, .inr (4, xf45 ad)), (ad 47, .inr (4, xf47 ad)), (ad 49, .inr (4, xf49 ad)), (ad 51, .inr (4, xf51 ad))] H := by assumption
          have hD : va_D A [(ad 0, .inr (8, xf0 ad)), (ad 44, .inl (cQ, 4, .inr (.inr (.inr (.inr (va_up (va_up (va_up (va_up (fun _ => none) (Int32.toNatClampNeg 0) (some (ad 45))) (Int32.toNatClampNeg 1) (some (ad 47))) (Int32.toNatClampNeg 2) (some (ad 49))) (Int32.toNatClampNeg 3) (some (ad 51)))))))), (ad 45, .inr (4, xf45 ad)), (ad 47, .inr (4, xf47 ad)), (ad 49, .inr (4, xf49 ad)), (ad 51, .inr (4, xf51 ad))] := by assumption
          refine va_aldq hx hb hK hP 1 5 rfl rfl (z_in (a := 3) (by decide) (by decide) (by decide)) dX8_paste_30 ?_
          refine W.eq (g2 := F0 m 31 ls [.ref (ad 51)]) rfl ?_
          refine lv_astore (lv' := [(7, .ref (ad 51)), (6, .ref (ad 47)), (0, .ref (ad 0)), (1, .int 1), (2, .int p2), (3, .int 3), (4, .int p4), (5, .int p5)]) hx hb dX8_paste_31 hl (by decide) rfl (fun ls hl => ?_)
          refine lv_aload hx hb dX8_paste_33 (lv_at hl 1 rfl) ?_
          refine z_fini (w' := fun (u38 : Unit) => [(ad 0, .inr (8, xf0 ad)), (ad 44, .inl (cQ, 4, .inr (.inr (.inr (.inr (va_up (va_up (va_up (va_up (fun _ => none) (Int32.toNatClampNeg 0) (some (ad 45))) (Int32.toNatClampNeg 1) (some (ad 47))) (Int32.toNatClampNeg 2) (some (ad 49))) (Int32.toNatClampNeg 3) (some (ad 51)))))))), (ad 45, .inr (4, xf45 ad)), (ad 47, .inr (4, xf47 ad)), (ad 49, .inr (4, xf49 ad)), (ad 51, .inr (4, xf51 ad))]) (va_runV (As := []) (rest := []) ⟨hx, hb, hml, hown, hts⟩ (c_X4_stands_112 l dC dI cB cI cJ cZ cP cQ ad H.size) (cwV 0 hts gX8_paste_X4_stands rfl rfl rfl (by decide +kernel) ⟨Nat.le_of_ble_eq_true rfl, Nat.le_of_ble_eq_true rfl⟩) (z_pV (ci := 4) hK hP hD zX_nil [3] (by decide) rfl rfl 3 rfl) rfl rfl hl.1 rfl (lv_room (Nat.le_of_ble_eq_true rfl)) dX8_paste_35 ⟨Nat.le_of_ble_eq_true rfl, Nat.le_of_ble_eq_true rfl⟩) hP hD hS hA [3] [0, 1, 2, 4, 5] [0, 1, 2, 5, 3, 4] rfl rfl (by decide) (by decide) (fun _ => rfl) (by decide) (fun r39 u38 H locs hp40 hP hD hS => ?_)
          have hP : va_P (dC, dI) vwCl [(ad 0, .inr (8, xf0 ad)), (ad 44, .inl (cQ, 4, .inr (.inr (.inr (.inr (va_up (va_up (va_up (va_up (fun _ => none) (Int32.toNatClampNeg 0) (some (ad 45))) (Int32.toNatClampNeg 1) (some (ad 47))) (Int32.toNatClampNeg 2) (some (ad 49))) (Int32.toNatClampNeg 3) (some (ad 51)))))))), (ad 45, .inr (4, xf45 ad)), (ad 47, .inr (4, xf47 ad)), (ad 49, .inr (4, xf49 ad)), (ad 51, .inr (4, xf51 ad))] H := hP
          have hD : va_D A [(ad 0, .inr (8, xf0 ad)), (ad 44, .inl (cQ, 4, .inr (.inr (.inr (.inr (va_up (va_up (va_up (va_up (fun _ => none) (Int32.toNatClampNeg 0) (some (ad 45))) (Int32.toNatClampNeg 1) (some (ad 47))) (Int32.toNatClampNeg 2) (some (ad 49))) (Int32.toNatClampNeg 3) (some (ad 51)))))))), (ad 45, .inr (4, xf45 ad)), (ad 47, .inr (4, xf47 ad)), (ad 49, .inr (4, xf49 ad)), (ad 51, .inr (4, xf51 ad))] := hD
          refine W.widen (k := 0) (n := 0) (by decide) (by decide) ?_
          obtain rfl : r39 = 0 := hp40
          refine lv_if_eq (tgt := 49) hx hb dX8_paste_38 (by decide) (fun _ => ?_) (fun c => absurd (by decide) c)
          refine lv_bipush (v := (-6)) hx hb dX8_paste_49 (by decide) ?_
          have hP9 := hP.sub (ws' := []) [] rfl
          have hD9 := hD.sub (ws' := []) [] (by decide) rfl
          exact z_iret () hx hb hr hlocks hK hP9 hD9 hS hAe hQ rfl (Or.inr (Or.inr (Or.inr (Or.inr ⟨rfl, f7, f8, f15, f16⟩)))) dX8_paste_51
      · have hP : va_P (dC, dI) vwCl [(ad 0, .inr (8, xf0 ad)), (ad 44, .inl (cQ, 4, .inr (.inr (.inr (.inr (va_up (va_up (va_up (va_up (fun _ => none) (Int32.toNatClampNeg 0) (some (ad 45))) (Int32.toNatClampNeg 1) (some (ad 47))) (Int32.toNatClampNeg 2) (some (ad 49))) (Int32.toNatClampNeg 3) (some (ad 51)))))))), (ad 45, .inr (4, xf45 ad)), (ad 47, .inr (4, xf47 ad)), (ad 49, .inr (4, xf49 ad)), (ad 51, .inr (4, xf51 ad))] H := by assumption
        have hD : va_D A [(ad 0, .inr (8, xf0 ad)), (ad 44, .inl (cQ, 4, .inr (.inr (.inr (.inr (va_up (va_up (va_up (va_up (fun _ => none) (Int32.toNatClampNeg 0) (some (ad 45))) (Int32.toNatClampNeg 1) (some (ad 47))) (Int32.toNatClampNeg 2) (some (ad 49))) (Int32.toNatClampNeg 3) (some (ad 51)))))))), (ad 45, .inr (4, xf45 ad)), (ad 47, .inr (4, xf47 ad)), (ad 49, .inr (4, xf49 ad)), (ad 51, .inr (4, xf51 ad))] := by assumption
        refine va_aldq hx hb hK hP 1 5 rfl rfl (z_in (a := 2) (by decide) (by decide) (by decide)) dX8_paste_22 ?_
        refine W.eq (g2 := F0 m 23 ls [.ref (ad 49)]) rfl ?_
        refine lv_astore (lv' := [(6, .ref (ad 49)), (0, .ref (ad 0)), (1, .int 2), (2, .int p2), (3, .int p3), (4, .int p4), (5, .int p5)]) hx hb dX8_paste_23 hl (by decide) rfl (fun ls hl => ?_)
        refine lv_aload_n hx hb dX8_paste_25 rfl (lv_at hl 1 rfl) ?_
        refine va_get (D := (dC, dI)) (ci := 8) (v := .ref (ad 44)) (C := RX8) (T := TX8) (N := 10) hx hb hts hi8 hown hK hP 0 rfl rfl 9 (by decide) hk0 (fun _ h9 => h9) rfl dX8_paste_26 ?_
        refine lv_iload_n hx hb dX8_paste_29 rfl (lv_at hl 4 rfl) ?_
        obtain rfl | rfl | rfl | rfl : p3 = 0 ∨ p3 = 1 ∨ p3 = 2 ∨ p3 = 3 := z_cases4  (by omega) (by omega)
        · have hP : va_P (dC, dI) vwCl [(ad 0, .inr (8, xf0 ad)), (ad 44, .inl (cQ, 4, .inr (.inr (.inr (.inr (va_up (va_up (va_up (va_up (fun _ => none) (Int32.toNatClampNeg 0) (some (ad 45))) (Int32.toNatClampNeg 1) (some (ad 47))) (Int32.toNatClampNeg 2) (some (ad 49))) (Int32.toNatClampNeg 3) (some (ad 51)))))))), (ad 45, .inr (4, xf45 ad)), (ad 47, .inr (4, xf47 ad)), (ad 49, .inr (4, xf49 ad)), (ad 51, .inr (4, xf51 ad))] H := by assumption
          have hD : va_D A [(ad 0, .inr (8, xf0 ad)), (ad 44, .inl (cQ, 4, .inr (.inr (.inr (.inr (va_up (va_up (va_up (va_up (fun _ => none) (Int32.toNatClampNeg 0) (some (ad 45))) (Int32.toNatClampNeg 1) (some (ad 47))) (Int32.toNatClampNeg 2) (some (ad 49))) (Int32.toNatClampNeg 3) (some (ad 51)))))))), (ad 45, .inr (4, xf45 ad)), (ad 47, .inr (4, xf47 ad)), (ad 49, .inr (4, xf49 ad)), (ad 51, .inr (4, xf51 ad))] := by assumption
          refine va_aldq hx hb hK hP 1 5 rfl rfl (z_in (a := 0) (by decide) (by decide) (by decide)) dX8_paste_30 ?_
          refine W.eq (g2 := F0 m 31 ls [.ref (ad 45)]) rfl ?_
          refine lv_astore (lv' := [(7, .ref (ad 45)), (6, .ref (ad 49)), (0, .ref (ad 0)), (1, .int 2), (2, .int p2), (3, .int 0), (4, .int p4), (5, .int p5)]) hx hb dX8_paste_31 hl (by decide) rfl (fun ls hl => ?_)
          refine lv_aload hx hb dX8_paste_33 (lv_at hl 1 rfl) ?_
          refine z_fini (w' := fun (u41 : Unit) => [(ad 0, .inr (8, xf0 ad)), (ad 44, .inl (cQ, 4, .inr (.inr (.inr (.inr (va_up (va_up (va_up (va_up (fun _ => none) (Int32.toNatClampNeg 0) (some (ad 45))) (Int32.toNatClampNeg 1) (some (ad 47))) (Int32.toNatClampNeg 2) (some (ad 49))) (Int32.toNatClampNeg 3) (some (ad 51)))))))), (ad 45, .inr (4, xf45 ad)), (ad 47, .inr (4, xf47 ad)), (ad 49, .inr (4, xf49 ad)), (ad 51, .inr (4, xf51 ad))]) (va_runV (As := []) (rest := []) ⟨hx, hb, hml, hown, hts⟩ (c_X4_stands_113 l dC dI cB cI cJ cZ cP cQ ad H.size) (cwV 0 hts gX8_paste_X4_stands rfl rfl rfl (by decide +kernel) ⟨Nat.le_of_ble_eq_true rfl, Nat.le_of_ble_eq_true rfl⟩) (z_pV (ci := 4) hK hP hD zX_nil [4] (by decide) rfl rfl 4 rfl) rfl rfl hl.1 rfl (lv_room (Nat.le_of_ble_eq_true rfl)) dX8_paste_35 ⟨Nat.le_of_ble_eq_true rfl, Nat.le_of_ble_eq_true rfl⟩) hP hD hS hA [4] [0, 1, 2, 3, 5] [0, 1, 2, 3, 5, 4] rfl rfl (by decide) (by decide) (fun _ => rfl) (by decide) (fun r42 u41 H locs hp43 hP hD hS => ?_)
          have hP : va_P (dC, dI) vwCl [(ad 0, .inr (8, xf0 ad)), (ad 44, .inl (cQ, 4, .inr (.inr (.inr (.inr (va_up (va_up (va_up (va_up (fun _ => none) (Int32.toNatClampNeg 0) (some (ad 45))) (Int32.toNatClampNeg 1) (some (ad 47))) (Int32.toNatClampNeg 2) (some (ad 49))) (Int32.toNatClampNeg 3) (some (ad 51)))))))), (ad 45, .inr (4, xf45 ad)), (ad 47, .inr (4, xf47 ad)), (ad 49, .inr (4, xf49 ad)), (ad 51, .inr (4, xf51 ad))] H := hP
          have hD : va_D A [(ad 0, .inr (8, xf0 ad)), (ad 44, .inl (cQ, 4, .inr (.inr (.inr (.inr (va_up (va_up (va_up (va_up (fun _ => none) (Int32.toNatClampNeg 0) (some (ad 45))) (Int32.toNatClampNeg 1) (some (ad 47))) (Int32.toNatClampNeg 2) (some (ad 49))) (Int32.toNatClampNeg 3) (some (ad 51)))))))), (ad 45, .inr (4, xf45 ad)), (ad 47, .inr (4, xf47 ad)), (ad 49, .inr (4, xf49 ad)), (ad 51, .inr (4, xf51 ad))] := hD
          refine W.widen (k := 0) (n := 0) (by decide) (by decide) ?_
          obtain rfl : r42 = 0 := hp43
          refine lv_if_eq (tgt := 49) hx hb dX8_paste_38 (by decide) (fun _ => ?_) (fun c => absurd (by decide) c)
          refine lv_bipush (v := (-6)) hx hb dX8_paste_49 (by decide) ?_
          have hP9 := hP.sub (ws' := []) [] rfl
          have hD9 := hD.sub (ws' := []) [] (by decide) rfl
          exact z_iret () hx hb hr hlocks hK hP9 hD9 hS hAe hQ rfl (Or.inr (Or.inr (Or.inr (Or.inr ⟨rfl, f7, f8, f15, f16⟩)))) dX8_paste_51
        · have hP : va_P (dC, dI) vwCl [(ad 0, .inr (8, xf0 ad)), (ad 44, .inl (cQ, 4, .inr (.inr (.inr (.inr (va_up (va_up (va_up (va_up (fun _ => none) (Int32.toNatClampNeg 0) (some (ad 45))) (Int32.toNatClampNeg 1) (some (ad 47))) (Int32.toNatClampNeg 2) (some (ad 49))) (Int32.toNatClampNeg 3) (some (ad 51)))))))), (ad 45, .inr (4, xf45 ad)), (ad 47, .inr (4, xf47 ad)), (ad 49, .inr (4, xf49 ad)), (ad 51, .inr (4, xf51 ad))] H := by assumption
          have hD : va_D A [(ad 0, .inr (8, xf0 ad)), (ad 44, .inl (cQ, 4, .inr (.inr (.inr (.inr (va_up (va_up (va_up (va_up (fun _ => none) (Int32.toNatClampNeg 0) (some (ad 45))) (Int32.toNatClampNeg 1) (some (ad 47))) (Int32.toNatClampNeg 2) (some (ad 49))) (Int32.toNatClampNeg 3) (some (ad 51)))))))), (ad 45, .inr (4, xf45 ad)), (ad 47, .inr (4, xf47 ad)), (ad 49, .inr (4, xf49 ad)), (ad 51, .inr (4, xf51 ad))] := by assumption
          refine va_aldq hx hb hK hP 1 5 rfl rfl (z_in (a := 1) (by decide) (by decide) (by decide)) dX8_paste_30 ?_
          refine W.eq (g2 := F0 m 31 ls [.ref (ad 47)]) rfl ?_
          refine lv_astore (lv' := [(7, .ref (ad 47)), (6, .ref (ad 49)), (0, .ref (ad 0)), (1, .int 2), (2, .int p2), (3, .int 1), (4, .int p4), (5, .int p5)]) hx hb dX8_paste_31 hl (by decide) rfl (fun ls hl => ?_)
          refine lv_aload hx hb dX8_paste_33 (lv_at hl 1 rfl) ?_
          refine z_fini (w' := fun (u44 : Unit) => [(ad 0, .inr (8, xf0 ad)), (ad 44, .inl (cQ, 4, .inr (.inr (.inr (.inr (va_up (va_up (va_up (va_up (fun _ => none) (Int32.toNatClampNeg 0) (some (ad 45))) (Int32.toNatClampNeg 1) (some (ad 47))) (Int32.toNatClampNeg 2) (some (ad 49))) (Int32.toNatClampNeg 3) (some (ad 51)))))))), (ad 45, .inr (4, xf45 ad)), (ad 47, .inr (4, xf47 ad)), (ad 49, .inr (4, xf49 ad)), (ad 51, .inr (4, xf51 ad))]) (va_runV (As := []) (rest := []) ⟨hx, hb, hml, hown, hts⟩ (c_X4_stands_113 l dC dI cB cI cJ cZ cP cQ ad H.size) (cwV 0 hts gX8_paste_X4_stands rfl rfl rfl (by decide +kernel) ⟨Nat.le_of_ble_eq_true rfl, Nat.le_of_ble_eq_true rfl⟩) (z_pV (ci := 4) hK hP hD zX_nil [4] (by decide) rfl rfl 4 rfl) rfl rfl hl.1 rfl (lv_room (Nat.le_of_ble_eq_true rfl)) dX8_paste_35 ⟨Nat.le_of_ble_eq_true rfl, Nat.le_of_ble_eq_true rfl⟩) hP hD hS hA [4] [0, 1, 2, 3, 5] [0, 1, 2, 3, 5, 4] rfl rfl (by decide) (by decide) (fun _ => rfl) (by decide) (fun r45 u44 H locs hp46 hP hD hS => ?_)
          have hP : va_P (dC, dI) vwCl [(ad 0, .inr (8, xf0 ad)), (ad 44, .inl (cQ, 4, .inr (.inr (.inr (.inr (va_up (va_up (va_up (va_up (fun _ => none) (Int32.toNatClampNeg 0) (some (ad 45))) (Int32.toNatClampNeg 1) (some (ad 47))) (Int32.toNatClampNeg 2) (some (ad 49))) (Int32.toNatClampNeg 3) (some (ad 51)))))))), (ad 45, .inr (4, xf45 ad)), (ad 47, .inr (4, xf47 ad)), (ad 49, .inr (4, xf49 ad)), (ad 51, .inr (4, xf51 ad))] H := hP
          have hD : va_D A [(ad 0, .inr (8, xf0 ad)), (ad 44, .inl (cQ, 4, .inr (.inr (.inr (.inr (va_up (va_up (va_up (va_up (fun _ => none) (Int32.toNatClampNeg 0) (some (ad 45))) (Int32.toNatClampNeg 1) (some (ad 47))) (Int32.toNatClampNeg 2) (some (ad 49))) (Int32.toNatClampNeg 3) (some (ad 51)))))))), (ad 45, .inr (4, xf45 ad)), (ad 47, .inr (4, xf47 ad)), (ad 49, .inr (4, xf49 ad)), (ad 51, .inr (4, xf51 ad))] := hD
          refine W.widen (k := 0) (n := 0) (by decide) (by decide) ?_
          obtain rfl : r45 = 0 := hp46
          refine lv_if_eq (tgt := 49) hx hb dX8_paste_38 (by decide) (fun _ => ?_) (fun c => absurd (by decide) c)
          refine lv_bipush (v := (-6)) hx hb dX8_paste_49 (by decide) ?_
          have hP9 := hP.sub (ws' := []) [] rfl
          have hD9 := hD.sub (ws' := []) [] (by decide) rfl
          exact z_iret () hx hb hr hlocks hK hP9 hD9 hS hAe hQ rfl (Or.inr (Or.inr (Or.inr (Or.inr ⟨rfl, f7, f8, f15, f16⟩)))) dX8_paste_51
        · have hP : va_P (dC, dI) vwCl [(ad 0, .inr (8, xf0 ad)), (ad 44, .inl (cQ, 4, .inr (.inr (.inr (.inr (va_up (va_up (va_up (va_up (fun _ => none) (Int32.toNatClampNeg 0) (some (ad 45))) (Int32.toNatClampNeg 1) (some (ad 47))) (Int32.toNatClampNeg 2) (some (ad 49))) (Int32.toNatClampNeg 3) (some (ad 51)))))))), (ad 45, .inr (4, xf45 ad)), (ad 47, .inr (4, xf47 ad)), (ad 49, .inr (4, xf49 ad)), (ad 51, .inr (4, xf51 ad))] H := by assumption
          have hD : va_D A [(ad 0, .inr (8, xf0 ad)), (ad 44, .inl (cQ, 4, .inr (.inr (.inr (.inr (va_up (va_up (va_up (va_up (fun _ => none) (Int32.toNatClampNeg 0) (some (ad 45))) (Int32.toNatClampNeg 1) (some (ad 47))) (Int32.toNatClampNeg 2) (some (ad 49))) (Int32.toNatClampNeg 3) (some (ad 51)))))))), (ad 45, .inr (4, xf45 ad)), (ad 47, .inr (4, xf47 ad)), (ad 49, .inr (4, xf49 ad)), (ad 51, .inr (4, xf51 ad))] := by assumption
          refine va_aldq hx hb hK hP 1 5 rfl rfl (z_in (a := 2) (by decide) (by decide) (by decide)) dX8_paste_30 ?_
          refine W.eq (g2 := F0 m 31 ls [.ref (ad 49)]) rfl ?_
          refine lv_astore (lv' := [(7, .ref (ad 49)), (6, .ref (ad 49)), (0, .ref (ad 0)), (1, .int 2), (2, .int p2), (3, .int 2), (4, .int p4), (5, .int p5)]) hx hb dX8_paste_31 hl (by decide) rfl (fun ls hl => ?_)
          refine lv_aload hx hb dX8_paste_33 (lv_at hl 1 rfl) ?_
          refine z_fini (w' := fun (u47 : Unit) => [(ad 0, .inr (8, xf0 ad)), (ad 44, .inl (cQ, 4, .inr (.inr (.inr (.inr (va_up (va_up (va_up (va_up (fun _ => none) (Int32.toNatClampNeg 0) (some (ad 45))) (Int32.toNatClampNeg 1) (some (ad 47))) (Int32.toNatClampNeg 2) (some (ad 49))) (Int32.toNatClampNeg 3) (some (ad 51)))))))), (ad 45, .inr (4, xf45 ad)), (ad 47, .inr (4, xf47 ad)), (ad 49, .inr (4, xf49 ad)), (ad 51, .inr (4, xf51 ad))]) (va_runV (As := []) (rest := []) ⟨hx, hb, hml, hown, hts⟩ (c_X4_stands_113 l dC dI cB cI cJ cZ cP cQ ad H.size) (cwV 0 hts gX8_paste_X4_stands rfl rfl rfl (by decide +kernel) ⟨Nat.le_of_ble_eq_true rfl, Nat.le_of_ble_eq_true rfl⟩) (z_pV (ci := 4) hK hP hD zX_nil [4] (by decide) rfl rfl 4 rfl) rfl rfl hl.1 rfl (lv_room (Nat.le_of_ble_eq_true rfl)) dX8_paste_35 ⟨Nat.le_of_ble_eq_true rfl, Nat.le_of_ble_eq_true rfl⟩) hP hD hS hA [4] [0, 1, 2, 3, 5] [0, 1, 2, 3, 5, 4] rfl rfl (by decide) (by decide) (fun _ => rfl) (by decide) (fun r48 u47 H locs hp49 hP hD hS => ?_)
          have hP : va_P (dC, dI) vwCl [(ad 0, .inr (8, xf0 ad)), (ad 44, .inl (cQ, 4, .inr (.inr (.inr (.inr (va_up (va_up (va_up (va_up (fun _ => none) (Int32.toNatClampNeg 0) (some (ad 45))) (Int32.toNatClampNeg 1) (some (ad 47))) (Int32.toNatClampNeg 2) (some (ad 49))) (Int32.toNatClampNeg 3) (some (ad 51)))))))), (ad 45, .inr (4, xf45 ad)), (ad 47, .inr (4, xf47 ad)), (ad 49, .inr (4, xf49 ad)), (ad 51, .inr (4, xf51 ad))] H := hP
          have hD : va_D A [(ad 0, .inr (8, xf0 ad)), (ad 44, .inl (cQ, 4, .inr (.inr (.inr (.inr (va_up (va_up (va_up (va_up (fun _ => none) (Int32.toNatClampNeg 0) (some (ad 45))) (Int32.toNatClampNeg 1) (some (ad 47))) (Int32.toNatClampNeg 2) (some (ad 49))) (Int32.toNatClampNeg 3) (some (ad 51)))))))), (ad 45, .inr (4, xf45 ad)), (ad 47, .inr (4, xf47 ad)), (ad 49, .inr (4, xf49 ad)), (ad 51, .inr (4, xf51 ad))] := hD
          refine W.widen (k := 0) (n := 0) (by decide) (by decide) ?_
          obtain rfl : r48 = 0 := hp49
          refine lv_if_eq (tgt := 49) hx hb dX8_paste_38 (by decide) (fun _ => ?_) (fun c => absurd (by decide) c)
          refine lv_bipush (v := (-6)) hx hb dX8_paste_49 (by decide) ?_
          have hP9 := hP.sub (ws' := []) [] rfl
          have hD9 := hD.sub (ws' := []) [] (by decide) rfl
          exact z_iret () hx hb hr hlocks hK hP9 hD9 hS hAe hQ rfl (Or.inr (Or.inr (Or.inr (Or.inr ⟨rfl, f7, f8, f15, f16⟩)))) dX8_paste_51
        · have hP : va_P (dC, dI) vwCl [(ad 0, .inr (8, xf0 ad)), (ad 44, .inl (cQ, 4, .inr (.inr (.inr (.inr (va_up (va_up (va_up (va_up (fun _ => none) (Int32.toNatClampNeg 0) (some (ad 45))) (Int32.toNatClampNeg 1) (some (ad 47))) (Int32.toNatClampNeg 2) (some (ad 49))) (Int32.toNatClampNeg 3) (some (ad 51)))))))), (ad 45, .inr (4, xf45 ad)), (ad 47, .inr (4, xf47 ad)), (ad 49, .inr (4, xf49 ad)), (ad 51, .inr (4, xf51 ad))] H := by assumption
          have hD : va_D A [(ad 0, .inr (8, xf0 ad)), (ad 44, .inl (cQ, 4, .inr (.inr (.inr (.inr (va_up (va_up (va_up (va_up (fun _ => none) (Int32.toNatClampNeg 0) (some (ad 45))) (Int32.toNatClampNeg 1) (some (ad 47))) (Int32.toNatClampNeg 2) (some (ad 49))) (Int32.toNatClampNeg 3) (some (ad 51)))))))), (ad 45, .inr (4, xf45 ad)), (ad 47, .inr (4, xf47 ad)), (ad 49, .inr (4, xf49 ad)), (ad 51, .inr (4, xf51 ad))] := by assumption
          refine va_aldq hx hb hK hP 1 5 rfl rfl (z_in (a := 3) (by decide) (by decide) (by decide)) dX8_paste_30 ?_
          refine W.eq (g2 := F0 m 31 ls [.ref (ad 51)]) rfl ?_
          refine lv_astore (lv' := [(7, .ref (ad 51)), (6, .ref (ad 49)), (0, .ref (ad 0)), (1, .int 2), (2, .int p2), (3, .int 3), (4, .int p4), (5, .int p5)]) hx hb dX8_paste_31 hl (by decide) rfl (fun ls hl => ?_)
          refine lv_aload hx hb dX8_paste_33 (lv_at hl 1 rfl) ?_
          refine z_fini (w' := fun (u50 : Unit) => [(ad 0, .inr (8, xf0 ad)), (ad 44, .inl (cQ, 4, .inr (.inr (.inr (.inr (va_up (va_up (va_up (va_up (fun _ => none) (Int32.toNatClampNeg 0) (some (ad 45))) (Int32.toNatClampNeg 1) (some (ad 47))) (Int32.toNatClampNeg 2) (some (ad 49))) (Int32.toNatClampNeg 3) (some (ad 51)))))))), (ad 45, .inr (4, xf45 ad)), (ad 47, .inr (4, xf47 ad)), (ad 49, .inr (4, xf49 ad)), (ad 51, .inr (4, xf51 ad))]) (va_runV (As := []) (rest := []) ⟨hx, hb, hml, hown, hts⟩ (c_X4_stands_113 l dC dI cB cI cJ cZ cP cQ ad H.size) (cwV 0 hts gX8_paste_X4_stands rfl rfl rfl (by decide +kernel) ⟨Nat.le_of_ble_eq_true rfl, Nat.le_of_ble_eq_true rfl⟩) (z_pV (ci := 4) hK hP hD zX_nil [4] (by decide) rfl rfl 4 rfl) rfl rfl hl.1 rfl (lv_room (Nat.le_of_ble_eq_true rfl)) dX8_paste_35 ⟨Nat.le_of_ble_eq_true rfl, Nat.le_of_ble_eq_true rfl⟩) hP hD hS hA [4] [0, 1, 2, 3, 5] [0, 1, 2, 3, 5, 4] rfl rfl (by decide) (by decide) (fun _ => rfl) (by decide) (fun r51 u50 H locs hp52 hP hD hS => ?_)
          have hP : va_P (dC, dI) vwCl [(ad 0, .inr (8, xf0 ad)), (ad 44, .inl (cQ, 4, .inr (.inr (.inr (.inr (va_up (va_up (va_up (va_up (fun _ => none) (Int32.toNatClampNeg 0) (some (ad 45))) (Int32.toNatClampNeg 1) (some (ad 47))) (Int32.toNatClampNeg 2) (some (ad 49))) (Int32.toNatClampNeg 3) (some (ad 51)))))))), (ad 45, .inr (4, xf45 ad)), (ad 47, .inr (4, xf47 ad)), (ad 49, .inr (4, xf49 ad)), (ad 51, .inr (4, xf51 ad))] H := hP
          have hD : va_D A [(ad 0, .inr (8, xf0 ad)), (ad 44, .inl (cQ, 4, .inr (.inr (.inr (.inr (va_up (va_up (va_up (va_up (fun _ => none) (Int32.toNatClampNeg 0) (some (ad 45))) (Int32.toNatClampNeg 1) (some (ad 47))) (Int32.toNatClampNeg 2) (some (ad 49))) (Int32.toNatClampNeg 3) (some (ad 51)))))))), (ad 45, .inr (4, xf45 ad)), (ad 47, .inr (4, xf47 ad)), (ad 49, .inr (4, xf49 ad)), (ad 51, .inr (4, xf51 ad))] := hD
          refine W.widen (k := 0) (n := 0) (by decide) (by decide) ?_
          obtain rfl : r51 = 0 := hp52
          refine lv_if_eq (tgt := 49) hx hb dX8_paste_38 (by decide) (fun _ => ?_) (fun c => absurd (by decide) c)
          refine lv_bipush (v := (-6)) hx hb dX8_paste_49 (by decide) ?_
          have hP9 := hP.sub (ws' := []) [] rfl
          have hD9 := hD.sub (ws' := []) [] (by decide) rfl
          exact z_iret () hx hb hr hlocks hK hP9 hD9 hS hAe hQ rfl (Or.inr (Or.inr (Or.inr (Or.inr ⟨rfl, f7, f8, f15, f16⟩)))) dX8_paste_51
      · have hP : va_P (dC, dI) vwCl [(ad 0, .inr (8, xf0 ad)), (ad 44, .inl (cQ, 4, .inr (.inr (.inr (.inr (va_up (va_up (va_up (va_up (fun _ => none) (Int32.toNatClampNeg 0) (some (ad 45))) (Int32.toNatClampNeg 1) (some (ad 47))) (Int32.toNatClampNeg 2) (some (ad 49))) (Int32.toNatClampNeg 3) (some (ad 51)))))))), (ad 45, .inr (4, xf45 ad)), (ad 47, .inr (4, xf47 ad)), (ad 49, .inr (4, xf49 ad)), (ad 51, .inr (4, xf51 ad))] H := by assumption
        have hD : va_D A [(ad 0, .inr (8, xf0 ad)), (ad 44, .inl (cQ, 4, .inr (.inr (.inr (.inr (va_up (va_up (va_up (va_up (fun _ => none) (Int32.toNatClampNeg 0) (some (ad 45))) (Int32.toNatClampNeg 1) (some (ad 47))) (Int32.toNatClampNeg 2) (some (ad 49))) (Int32.toNatClampNeg 3) (some (ad 51)))))))), (ad 45, .inr (4, xf45 ad)), (ad 47, .inr (4, xf47 ad)), (ad 49, .inr (4, xf49 ad)), (ad 51, .inr (4, xf51 ad))] := by assumption
        refine va_aldq hx hb hK hP 1 5 rfl rfl (z_in (a := 3) (by decide) (by decide) (by decide)) dX8_paste_22 ?_
        refine W.eq (g2 := F0 m 23 ls [.ref (ad 51)]) rfl ?_
        refine lv_astore (lv' := [(6, .ref (ad 51)), (0, .ref (ad 0)), (1, .int 3), (2, .int p2), (3, .int p3), (4, .int p4), (5, .int p5)]) hx hb dX8_paste_23 hl (by decide) rfl (fun ls hl => ?_)
        refine lv_aload_n hx hb dX8_paste_25 rfl (lv_at hl 1 rfl) ?_
        refine va_get (D := (dC, dI)) (ci := 8) (v := .ref (ad 44)) (C := RX8) (T := TX8) (N := 10) hx hb hts hi8 hown hK hP 0 rfl rfl 9 (by decide) hk0 (fun _ h9 => h9) rfl dX8_paste_26 ?_
        refine lv_iload_n hx hb dX8_paste_29 rfl (lv_at hl 4 rfl) ?_
        obtain rfl | rfl | rfl | rfl : p3 = 0 ∨ p3 = 1 ∨ p3 = 2 ∨ p3 = 3 := z_cases4  (by omega) (by omega)
        · have hP : va_P (dC, dI) vwCl [(ad 0, .inr (8, xf0 ad)), (ad 44, .inl (cQ, 4, .inr (.inr (.inr (.inr (va_up (va_up (va_up (va_up (fun _ => none) (Int32.toNatClampNeg 0) (some (ad 45))) (Int32.toNatClampNeg 1) (some (ad 47))) (Int32.toNatClampNeg 2) (some (ad 49))) (Int32.toNatClampNeg 3) (some (ad 51)))))))), (ad 45, .inr (4, xf45 ad)), (ad 47, .inr (4, xf47 ad)), (ad 49, .inr (4, xf49 ad)), (ad 51, .inr (4, xf51 ad))] H := by assumption
          have hD : va_D A [(ad 0, .inr (8, xf0 ad)), (ad 44, .inl (cQ, 4, .inr (.inr (.inr (.inr (va_up (va_up (va_up (va_up (fun _ => none) (Int32.toNatClampNeg 0) (some (ad 45))) (Int32.toNatClampNeg 1) (some (ad 47))) (Int32.toNatClampNeg 2) (some (ad 49))) (Int32.toNatClampNeg 3) (some (ad 51)))))))), (ad 45, .inr (4, xf45 ad)), (ad 47, .inr (4, xf47 ad)), (ad 49, .inr (4, xf49 ad)), (ad 51, .inr (4, xf51 ad))] := by assumption
          refine va_aldq hx hb hK hP 1 5 rfl rfl (z_in (a := 0) (by decide) (by decide) (by decide)) dX8_paste_30 ?_
          refine W.eq (g2 := F0 m 31 ls [.ref (ad 45)]) rfl ?_
          refine lv_astore (lv' := [(7, .ref (ad 45)), (6, .ref (ad 51)), (0, .ref (ad 0)), (1, .int 3), (2, .int p2), (3, .int 0), (4, .int p4), (5, .int p5)]) hx hb dX8_paste_31 hl (by decide) rfl (fun ls hl => ?_)
          refine lv_aload hx hb dX8_paste_33 (lv_at hl 1 rfl) ?_
          refine z_fini (w' := fun (u53 : Unit) => [(ad 0, .inr (8, xf0 ad)), (ad 44, .inl (cQ, 4, .inr (.inr (.inr (.inr (va_up (va_up (va_up (va_up (fun _ => none) (Int32.toNatClampNeg 0) (some (ad 45))) (Int32.toNatClampNeg 1) (some (ad 47))) (Int32.toNatClampNeg 2) (some (ad 49))) (Int32.toNatClampNeg 3) (some (ad 51)))))))), (ad 45, .inr (4, xf45 ad)), (ad 47, .inr (4, xf47 ad)), (ad 49, .inr (4, xf49 ad)), (ad 51, .inr (4, xf51 ad))]) (va_runV (As := []) (rest := []) ⟨hx, hb, hml, hown, hts⟩ (c_X4_stands_114 l dC dI cB cI cJ cZ cP cQ ad H.size) (cwV 0 hts gX8_paste_X4_stands rfl rfl rfl (by decide +kernel) ⟨Nat.le_of_ble_eq_true rfl, Nat.le_of_ble_eq_true rfl⟩) (z_pV (ci := 4) hK hP hD zX_nil [5] (by decide) rfl rfl 5 rfl) rfl rfl hl.1 rfl (lv_room (Nat.le_of_ble_eq_true rfl)) dX8_paste_35 ⟨Nat.le_of_ble_eq_true rfl, Nat.le_of_ble_eq_true rfl⟩) hP hD hS hA [5] [0, 1, 2, 3, 4] [0, 1, 2, 3, 4, 5] rfl rfl (by decide) (by decide) (fun _ => rfl) (by decide) (fun r54 u53 H locs hp55 hP hD hS => ?_)
          have hP : va_P (dC, dI) vwCl [(ad 0, .inr (8, xf0 ad)), (ad 44, .inl (cQ, 4, .inr (.inr (.inr (.inr (va_up (va_up (va_up (va_up (fun _ => none) (Int32.toNatClampNeg 0) (some (ad 45))) (Int32.toNatClampNeg 1) (some (ad 47))) (Int32.toNatClampNeg 2) (some (ad 49))) (Int32.toNatClampNeg 3) (some (ad 51)))))))), (ad 45, .inr (4, xf45 ad)), (ad 47, .inr (4, xf47 ad)), (ad 49, .inr (4, xf49 ad)), (ad 51, .inr (4, xf51 ad))] H := hP
          have hD : va_D A [(ad 0, .inr (8, xf0 ad)), (ad 44, .inl (cQ, 4, .inr (.inr (.inr (.inr (va_up (va_up (va_up (va_up (fun _ => none) (Int32.toNatClampNeg 0) (some (ad 45))) (Int32.toNatClampNeg 1) (some (ad 47))) (Int32.toNatClampNeg 2) (some (ad 49))) (Int32.toNatClampNeg 3) (some (ad 51)))))))), (ad 45, .inr (4, xf45 ad)), (ad 47, .inr (4, xf47 ad)), (ad 49, .inr (4, xf49 ad)), (ad 51, .inr (4, xf51 ad))] := hD
          refine W.widen (k := 0) (n := 0) (by decide) (by decide) ?_
          obtain rfl : r54 = 0 := hp55
          refine lv_if_eq (tgt := 49) hx hb dX8_paste_38 (by decide) (fun _ => ?_) (fun c => absurd (by decide) c)
          refine lv_bipush (v := (-6)) hx hb dX8_paste_49 (by decide) ?_
          have hP9 := hP.sub (ws' := []) [] rfl
          have hD9 := hD.sub (ws' := []) [] (by decide) rfl
          exact z_iret () hx hb hr hlocks hK hP9 hD9 hS hAe hQ rfl (Or.inr (Or.inr (Or.inr (Or.inr ⟨rfl, f7, f8, f15, f16⟩)))) dX8_paste_51
        · have hP : va_P (dC, dI) vwCl [(ad 0, .inr (8, xf0 ad)), (ad 44, .inl (cQ, 4, .inr (.inr (.inr (.inr (va_up (va_up (va_up (va_up (fun _ => none) (Int32.toNatClampNeg 0) (some (ad 45))) (Int32.toNatClampNeg 1) (some (ad 47))) (Int32.toNatClampNeg 2) (some (ad 49))) (Int32.toNatClampNeg 3) (some (ad 51)))))))), (ad 45, .inr (4, xf45 ad)), (ad 47, .inr (4, xf47 ad)), (ad 49, .inr (4, xf49 ad)), (ad 51, .inr (4, xf51 ad))] H := by assumption
          have hD : va_D A [(ad 0, .inr (8, xf0 ad)), (ad 44, .inl (cQ, 4, .inr (.inr (.inr (.inr (va_up (va_up (va_up (va_up (fun _ => none) (Int32.toNatClampNeg 0) (some (ad 45))) (Int32.toNatClampNeg 1) (some (ad 47))) (Int32.toNatClampNeg 2) (some (ad 49))) (Int32.toNatClampNeg 3) (some (ad 51)))))))), (ad 45, .inr (4, xf45 ad)), (ad 47, .inr (4, xf47 ad)), (ad 49, .inr (4, xf49 ad)), (ad 51, .inr (4, xf51 ad))] := by assumption
          refine va_aldq hx hb hK hP 1 5 rfl rfl (z_in (a := 1) (by decide) (by decide) (by decide)) dX8_paste_30 ?_
          refine W.eq (g2 := F0 m 31 ls [.ref (ad 47)]) rfl ?_
          refine lv_astore (lv' := [(7, .ref (ad 47)), (6, .ref (ad 51)), (0, .ref (ad 0)), (1, .int 3), (2, .int p2), (3, .int 1), (4, .int p4), (5, .int p5)]) hx hb dX8_paste_31 hl (by decide) rfl (fun ls hl => ?_)
          refine lv_aload hx hb dX8_paste_33 (lv_at hl 1 rfl) ?_
          refine z_fini (w' := fun (u56 : Unit) => [(ad 0, .inr (8, xf0 ad)), (ad 44, .inl (cQ, 4, .inr (.inr (.inr (.inr (va_up (va_up (va_up (va_up (fun _ => none) (Int32.toNatClampNeg 0) (some (ad 45))) (Int32.toNatClampNeg 1) (some (ad 47))) (Int32.toNatClampNeg 2) (some (ad 49))) (Int32.toNatClampNeg 3) (some (ad 51)))))))), (ad 45, .inr (4, xf45 ad)), (ad 47, .inr (4, xf47 ad)), (ad 49, .inr (4, xf49 ad)), (ad 51, .inr (4, xf51 ad))]) (va_runV (As := []) (rest := []) ⟨hx, hb, hml, hown, hts⟩ (c_X4_stands_114 l dC dI cB cI cJ cZ cP cQ ad H.size) (cwV 0 hts gX8_paste_X4_stands rfl rfl rfl (by decide +kernel) ⟨Nat.le_of_ble_eq_true rfl, Nat.le_of_ble_eq_true rfl⟩) (z_pV (ci := 4) hK hP hD zX_nil [5] (by decide) rfl rfl 5 rfl) rfl rfl hl.1 rfl (lv_room (Nat.le_of_ble_eq_true rfl)) dX8_paste_35 ⟨Nat.le_of_ble_eq_true rfl, Nat.le_of_ble_eq_true rfl⟩) hP hD hS hA [5] [0, 1, 2, 3, 4] [0, 1, 2, 3, 4, 5] rfl rfl (by decide) (by decide) (fun _ => rfl) (by decide) (fun r57 u56 H locs hp58 hP hD hS => ?_)
          have hP : va_P (dC, dI) vwCl [(ad 0, .inr (8, xf0 ad)), (ad 44, .inl (cQ, 4, .inr (.inr (.inr (.inr (va_up (va_up (va_up (va_up (fun _ => none) (Int32.toNatClampNeg 0) (some (ad 45))) (Int32.toNatClampNeg 1) (some (ad 47))) (Int32.toNatClampNeg 2) (some (ad 49))) (Int32.toNatClampNeg 3) (some (ad 51)))))))), (ad 45, .inr (4, xf45 ad)), (ad 47, .inr (4, xf47 ad)), (ad 49, .inr (4, xf49 ad)), (ad 51, .inr (4, xf51 ad))] H := hP
          have hD : va_D A [(ad 0, .inr (8, xf0 ad)), (ad 44, .inl (cQ, 4, .inr (.inr (.inr (.inr (va_up (va_up (va_up (va_up (fun _ => none) (Int32.toNatClampNeg 0) (some (ad 45))) (Int32.toNatClampNeg 1) (some (ad 47))) (Int32.toNatClampNeg 2) (some (ad 49))) (Int32.toNatClampNeg 3) (some (ad 51)))))))), (ad 45, .inr (4, xf45 ad)), (ad 47, .inr (4, xf47 ad)), (ad 49, .inr (4, xf49 ad)), (ad 51, .inr (4, xf51 ad))] := hD
          refine W.widen (k := 0) (n := 0) (by decide) (by decide) ?_
          obtain rfl : r57 = 0 := hp58
          refine lv_if_eq (tgt := 49) hx hb dX8_paste_38 (by decide) (fun _ => ?_) (fun c => absurd (by decide) c)
          refine lv_bipush (v := (-6)) hx hb dX8_paste_49 (by decide) ?_
          have hP9 := hP.sub (ws' := []) [] rfl
          have hD9 := hD.sub (ws' := []) [] (by decide) rfl
          exact z_iret () hx hb hr hlocks hK hP9 hD9 hS hAe hQ rfl (Or.inr (Or.inr (Or.inr (Or.inr ⟨rfl, f7, f8, f15, f16⟩)))) dX8_paste_51
        · have hP : va_P (dC, dI) vwCl [(ad 0, .inr (8, xf0 ad)), (ad 44, .inl (cQ, 4, .inr (.inr (.inr (.inr (va_up (va_up (va_up (va_up (fun _ => none) (Int32.toNatClampNeg 0) (some (ad 45))) (Int32.toNatClampNeg 1) (some (ad 47))) (Int32.toNatClampNeg 2) (some (ad 49))) (Int32.toNatClampNeg 3) (some (ad 51)))))))), (ad 45, .inr (4, xf45 ad)), (ad 47, .inr (4, xf47 ad)), (ad 49, .inr (4, xf49 ad)), (ad 51, .inr (4, xf51 ad))] H := by assumption
          have hD : va_D A [(ad 0, .inr (8, xf0 ad)), (ad 44, .inl (cQ, 4, .inr (.inr (.inr (.inr (va_up (va_up (va_up (va_up (fun _ => none) (Int32.toNatClampNeg 0) (some (ad 45))) (Int32.toNatClampNeg 1) (some (ad 47))) (Int32.toNatClampNeg 2) (some (ad 49))) (Int32.toNatClampNeg 3) (some (ad 51)))))))), (ad 45, .inr (4, xf45 ad)), (ad 47, .inr (4, xf47 ad)), (ad 49, .inr (4, xf49 ad)), (ad 51, .inr (4, xf51 ad))] := by assumption
          refine va_aldq hx hb hK hP 1 5 rfl rfl (z_in (a := 2) (by decide) (by decide) (by decide)) dX8_paste_30 ?_
          refine W.eq (g2 := F0 m 31 ls [.ref (ad 49)]) rfl ?_
          refine lv_astore (lv' := [(7, .ref (ad 49)), (6, .ref (ad 51)), (0, .ref (ad 0)), (1, .int 3), (2, .int p2), (3, .int 2), (4, .int p4), (5, .int p5)]) hx hb dX8_paste_31 hl (by decide) rfl (fun ls hl => ?_)
          refine lv_aload hx hb dX8_paste_33 (lv_at hl 1 rfl) ?_
          refine z_fini (w' := fun (u59 : Unit) => [(ad 0, .inr (8, xf0 ad)), (ad 44, .inl (cQ, 4, .inr (.inr (.inr (.inr (va_up (va_up (va_up (va_up (fun _ => none) (Int32.toNatClampNeg 0) (some (ad 45))) (Int32.toNatClampNeg 1) (some (ad 47))) (Int32.toNatClampNeg 2) (some (ad 49))) (Int32.toNatClampNeg 3) (some (ad 51)))))))), (ad 45, .inr (4, xf45 ad)), (ad 47, .inr (4, xf47 ad)), (ad 49, .inr (4, xf49 ad)), (ad 51, .inr (4, xf51 ad))]) (va_runV (As := []) (rest := []) ⟨hx, hb, hml, hown, hts⟩ (c_X4_stands_114 l dC dI cB cI cJ cZ cP cQ ad H.size) (cwV 0 hts gX8_paste_X4_stands rfl rfl rfl (by decide +kernel) ⟨Nat.le_of_ble_eq_true rfl, Nat.le_of_ble_eq_true rfl⟩) (z_pV (ci := 4) hK hP hD zX_nil [5] (by decide) rfl rfl 5 rfl) rfl rfl hl.1 rfl (lv_room (Nat.le_of_ble_eq_true rfl)) dX8_paste_35 ⟨Nat.le_of_ble_eq_true rfl, Nat.le_of_ble_eq_true rfl⟩) hP hD hS hA [5] [0, 1, 2, 3, 4] [0, 1, 2, 3, 4, 5] rfl rfl (by decide) (by decide) (fun _ => rfl) (by decide) (fun r60 u59 H locs hp61 hP hD hS => ?_)
          have hP : va_P (dC, dI) vwCl [(ad 0, .inr (8, xf0 ad)), (ad 44, .inl (cQ, 4, .inr (.inr (.inr (.inr (va_up (va_up (va_up (va_up (fun _ => none) (Int32.toNatClampNeg 0) (some (ad 45))) (Int32.toNatClampNeg 1) (some (ad 47))) (Int32.toNatClampNeg 2) (some (ad 49))) (Int32.toNatClampNeg 3) (some (ad 51)))))))), (ad 45, .inr (4, xf45 ad)), (ad 47, .inr (4, xf47 ad)), (ad 49, .inr (4, xf49 ad)), (ad 51, .inr (4, xf51 ad))] H := hP
          have hD : va_D A [(ad 0, .inr (8, xf0 ad)), (ad 44, .inl (cQ, 4, .inr (.inr (.inr (.inr (va_up (va_up (va_up (va_up (fun _ => none) (Int32.toNatClampNeg 0) (some (ad 45))) (Int32.toNatClampNeg 1) (some (ad 47))) (Int32.toNatClampNeg 2) (some (ad 49))) (Int32.toNatClampNeg 3) (some (ad 51)))))))), (ad 45, .inr (4, xf45 ad)), (ad 47, .inr (4, xf47 ad)), (ad 49, .inr (4, xf49 ad)), (ad 51, .inr (4, xf51 ad))] := hD
          refine W.widen (k := 0) (n := 0) (by decide) (by decide) ?_
          obtain rfl : r60 = 0 := hp61
          refine lv_if_eq (tgt := 49) hx hb dX8_paste_38 (by decide) (fun _ => ?_) (fun c => absurd (by decide) c)
          refine lv_bipush (v := (-6)) hx hb dX8_paste_49 (by decide) ?_
          have hP9 := hP.sub (ws' := []) [] rfl
          have hD9 := hD.sub (ws' := []) [] (by decide) rfl
          exact z_iret () hx hb hr hlocks hK hP9 hD9 hS hAe hQ rfl (Or.inr (Or.inr (Or.inr (Or.inr ⟨rfl, f7, f8, f15, f16⟩)))) dX8_paste_51
        · have hP : va_P (dC, dI) vwCl [(ad 0, .inr (8, xf0 ad)), (ad 44, .inl (cQ, 4, .inr (.inr (.inr (.inr (va_up (va_up (va_up (va_up (fun _ => none) (Int32.toNatClampNeg 0) (some (ad 45))) (Int32.toNatClampNeg 1) (some (ad 47))) (Int32.toNatClampNeg 2) (some (ad 49))) (Int32.toNatClampNeg 3) (some (ad 51)))))))), (ad 45, .inr (4, xf45 ad)), (ad 47, .inr (4, xf47 ad)), (ad 49, .inr (4, xf49 ad)), (ad 51, .inr (4, xf51 ad))] H := by assumption
          have hD : va_D A [(ad 0, .inr (8, xf0 ad)), (ad 44, .inl (cQ, 4, .inr (.inr (.inr (.inr (va_up (va_up (va_up (va_up (fun _ => none) (Int32.toNatClampNeg 0) (some (ad 45))) (Int32.toNatClampNeg 1) (some (ad 47))) (Int32.toNatClampNeg 2) (some (ad 49))) (Int32.toNatClampNeg 3) (some (ad 51)))))))), (ad 45, .inr (4, xf45 ad)), (ad 47, .inr (4, xf47 ad)), (ad 49, .inr (4, xf49 ad)), (ad 51, .inr (4, xf51 ad))] := by assumption
          refine va_aldq hx hb hK hP 1 5 rfl rfl (z_in (a := 3) (by decide) (by decide) (by decide)) dX8_paste_30 ?_
          refine W.eq (g2 := F0 m 31 ls [.ref (ad 51)]) rfl ?_
          refine lv_astore (lv' := [(7, .ref (ad 51)), (6, .ref (ad 51)), (0, .ref (ad 0)), (1, .int 3), (2, .int p2), (3, .int 3), (4, .int p4), (5, .int p5)]) hx hb dX8_paste_31 hl (by decide) rfl (fun ls hl => ?_)
          refine lv_aload hx hb dX8_paste_33 (lv_at hl 1 rfl) ?_
          refine z_fini (w' := fun (u62 : Unit) => [(ad 0, .inr (8, xf0 ad)), (ad 44, .inl (cQ, 4, .inr (.inr (.inr (.inr (va_up (va_up (va_up (va_up (fun _ => none) (Int32.toNatClampNeg 0) (some (ad 45))) (Int32.toNatClampNeg 1) (some (ad 47))) (Int32.toNatClampNeg 2) (some (ad 49))) (Int32.toNatClampNeg 3) (some (ad 51)))))))), (ad 45, .inr (4, xf45 ad)), (ad 47, .inr (4, xf47 ad)), (ad 49, .inr (4, xf49 ad)), (ad 51, .inr (4, xf51 ad))]) (va_runV (As := []) (rest := []) ⟨hx, hb, hml, hown, hts⟩ (c_X4_stands_114 l dC dI cB cI cJ cZ cP cQ ad H.size) (cwV 0 hts gX8_paste_X4_stands rfl rfl rfl (by decide +kernel) ⟨Nat.le_of_ble_eq_true rfl, Nat.le_of_ble_eq_true rfl⟩) (z_pV (ci := 4) hK hP hD zX_nil [5] (by decide) rfl rfl 5 rfl) rfl rfl hl.1 rfl (lv_room (Nat.le_of_ble_eq_true rfl)) dX8_paste_35 ⟨Nat.le_of_ble_eq_true rfl, Nat.le_of_ble_eq_true rfl⟩) hP hD hS hA [5] [0, 1, 2, 3, 4] [0, 1, 2, 3, 4, 5] rfl rfl (by decide) (by decide) (fun _ => rfl) (by decide) (fun r63 u62 H locs hp64 hP hD hS => ?_)
          have hP : va_P (dC, dI) vwCl [(ad 0, .inr (8, xf0 ad)), (ad 44, .inl (cQ, 4, .inr (.inr (.inr (.inr (va_up (va_up (va_up (va_up (fun _ => none) (Int32.toNatClampNeg 0) (some (ad 45))) (Int32.toNatClampNeg 1) (some (ad 47))) (Int32.toNatClampNeg 2) (some (ad 49))) (Int32.toNatClampNeg 3) (some (ad 51)))))))), (ad 45, .inr (4, xf45 ad)), (ad 47, .inr (4, xf47 ad)), (ad 49, .inr (4, xf49 ad)), (ad 51, .inr (4, xf51 ad))] H := hP
          have hD : va_D A [(ad 0, .inr (8, xf0 ad)), (ad 44, .inl (cQ, 4, .inr (.inr (.inr (.inr (va_up (va_up (va_up (va_up (fun _ => none) (Int32.toNatClampNeg 0) (some (ad 45))) (Int32.toNatClampNeg 1) (some (ad 47))) (Int32.toNatClampNeg 2) (some (ad 49))) (Int32.toNatClampNeg 3) (some (ad 51)))))))), (ad 45, .inr (4, xf45 ad)), (ad 47, .inr (4, xf47 ad)), (ad 49, .inr (4, xf49 ad)), (ad 51, .inr (4, xf51 ad))] := hD
          refine W.widen (k := 0) (n := 0) (by decide) (by decide) ?_
          obtain rfl : r63 = 0 := hp64
          refine lv_if_eq (tgt := 49) hx hb dX8_paste_38 (by decide) (fun _ => ?_) (fun c => absurd (by decide) c)
          refine lv_bipush (v := (-6)) hx hb dX8_paste_49 (by decide) ?_
          have hP9 := hP.sub (ws' := []) [] rfl
          have hD9 := hD.sub (ws' := []) [] (by decide) rfl
          exact z_iret () hx hb hr hlocks hK hP9 hD9 hS hAe hQ rfl (Or.inr (Or.inr (Or.inr (Or.inr ⟨rfl, f7, f8, f15, f16⟩)))) dX8_paste_51
set_option maxHeartbeats 4000000 in
set_option maxRecDepth 100000 in
theorem c_X9_in_142 (l : Launch) (dC : Nat → ClassId) (dI : Nat → Nat → Nat) (cB cI cJ cZ cP cQ : ClassId) (sz : Nat) (p0 : Int32) : Met l yX9_in wsX9_in ({ frames := 0, cells := 0, slots := 0, locals := 0 } : Room) (zPc [.long p0.toInt64, .long 0, .long 3] (dC, dI) (zT cB cI cJ cZ cP cQ) [] sz [] []) (va_Qi (fun r _ => (fun r => (r = 0 ∧ p0.toInt < 0) ∨ (r = 0 ∧ 0 ≤ p0.toInt ∧ 3 < p0.toInt) ∨ (r = 1 ∧ 0 ≤ p0.toInt ∧ p0.toInt ≤ 3)) r) (zB (dC, dI) (zT cB cI cJ cZ cP cQ) (fun _ : Unit => []) [] sz) (va_A [] sz)) 0 0 (va_A [] sz) := by
  refine z_enter (cc := cX9_in) (maxL := 6) (ret := (some .boolean)) (by decide) rfl (Nat.le_of_ble_eq_true rfl) ?_
  intro p e s m below meth c A ls Q H locs hx hb hr hml hown hts hlocks hin hK hP hD hA hX hS hAe hQ hl
  have hown : s.vm.findClass RX9 = some m.cls := hown
  have hl : lv_has ls 6 [(0, .long p0.toInt64), (2, .long 0), (4, .long 3)] := hl
  refine lv_lload_n hx hb dX9_in_0 rfl (lv_at hl 0 rfl) ?_
  refine lv_lload_n hx hb dX9_in_1 rfl (lv_at hl 1 rfl) ?_
  refine W.lcmp hx hb dX9_in_2 ?_
  refine lv_if_lt (tgt := 17) hx hb dX9_in_3 (by decide) (fun c_1 => ?_) (fun c_1 => ?_)
  · have f2 : p0.toInt < 0 := z_llt (z_i2l p0) (by decide) c_1
    refine lv_iconst (v := 0) hx hb dX9_in_17 (by decide) ?_
    exact z_zret () hx hb hr hlocks hK hP hD hS hAe hQ rfl (Or.inl (⟨rfl, f2⟩)) (by decide) dX9_in_18
  · have f2 : 0 ≤ p0.toInt := z_lnlt (z_i2l p0) (by decide) c_1
    refine lv_lload_n hx hb dX9_in_6 rfl (lv_at hl 0 rfl) ?_
    refine lv_lload hx hb dX9_in_7 (lv_at hl 2 rfl) ?_
    refine W.lcmp hx hb dX9_in_9 ?_
    refine lv_if_gt (tgt := 17) hx hb dX9_in_10 (by decide) (fun c_3 => ?_) (fun c_3 => ?_)
    · have f4 : 3 < p0.toInt := z_lgt (z_i2l p0) (by decide) c_3
      refine lv_iconst (v := 0) hx hb dX9_in_17 (by decide) ?_
      exact z_zret () hx hb hr hlocks hK hP hD hS hAe hQ rfl (Or.inr (Or.inl ⟨rfl, f2, f4⟩)) (by decide) dX9_in_18
    · have f4 : p0.toInt ≤ 3 := z_lngt (z_i2l p0) (by decide) c_3
      refine lv_iconst (v := 1) hx hb dX9_in_13 (by decide) ?_
      refine lv_goto (tgt := 18) hx hb dX9_in_14 (by decide) ?_
      exact z_zret () hx hb hr hlocks hK hP hD hS hAe hQ rfl (Or.inr (Or.inr ⟨rfl, f2, f4⟩)) (by decide) dX9_in_18
set_option maxHeartbeats 4000000 in
set_option maxRecDepth 100000 in
theorem c_X9_isSlot_142 (l : Launch) (dC : Nat → ClassId) (dI : Nat → Nat → Nat) (cB cI cJ cZ cP cQ : ClassId) (sz : Nat) (p0 : Int32) : Met l yX9_isSlot wsX9_isSlot ({ frames := 1, cells := 0, slots := 0, locals := 25 } : Room) (zPc [.int p0] (dC, dI) (zT cB cI cJ cZ cP cQ) [] sz [] []) (va_Qi (fun r _ => (fun r => (r = 0 ∧ p0.toInt < 0) ∨ (r = 0 ∧ 0 ≤ p0.toInt ∧ 3 < p0.toInt) ∨ (r = 1 ∧ 0 ≤ p0.toInt ∧ p0.toInt ≤ 3)) r) (zB (dC, dI) (zT cB cI cJ cZ cP cQ) (fun _ : Unit => []) [] sz) (va_A [] sz)) 0 0 (va_A [] sz) := by
  refine z_enter (cc := cX9_isSlot) (maxL := 1) (ret := (some .boolean)) (by decide) rfl (Nat.le_of_ble_eq_true rfl) ?_
  intro p e s m below meth c A ls Q H locs hx hb hr hml hown hts hlocks hin hK hP hD hA hX hS hAe hQ hl
  have hown : s.vm.findClass RX9 = some m.cls := hown
  have hk0 := hts (.constantLong RX9 128 3) (by decide +kernel)
  have hl : lv_has ls 1 [(0, .int p0)] := hl
  refine lv_iload_n hx hb dX9_isSlot_0 rfl (lv_at hl 0 rfl) ?_
  refine lv_i2l hx hb dX9_isSlot_1 rfl ?_
  refine lv_lconst (v := 0) hx hb dX9_isSlot_2 (by decide) ?_
  refine lv_ldc2 hx hb hown hk0 dX9_isSlot_3 ?_
  refine z_fini (w' := fun (u1 : Unit) => []) (va_runS (As := [.long p0.toInt64, .long 0, .long 3]) (rest := []) ⟨hx, hb, hml, hown, hts⟩ (c_X9_in_142 l dC dI cB cI cJ cZ cP cQ H.size p0) (va_cwS 3 hts gX9_isSlot_X9_in rfl rfl rfl (by decide +kernel) ⟨Nat.le_of_ble_eq_true rfl, Nat.le_of_ble_eq_true rfl⟩) (z_pS hK hP hD zX_nil [] (by decide) rfl) rfl rfl hl.1 rfl (lv_room (Nat.le_of_ble_eq_true rfl)) dX9_isSlot_6 ⟨Nat.le_of_ble_eq_true rfl, Nat.le_of_ble_eq_true rfl⟩) hP hD hS hA [] [] [] rfl rfl (by decide) (by decide) (fun _ => rfl) (by decide) (fun r2 u1 H locs hp3 hP hD hS => ?_)
  have hP : va_P (dC, dI) vwCl [] H := hP
  have hD : va_D A [] := hD
  refine W.widen (k := 0) (n := 0) (by decide) (by decide) ?_
  rcases hp3 with ⟨rfl, f4⟩ | ⟨rfl, f5, f6⟩ | ⟨rfl, f7, f8⟩
  · exact z_zret () hx hb hr hlocks hK hP hD hS hAe hQ rfl (Or.inl (⟨rfl, f4⟩)) (by decide) dX9_isSlot_9
  · exact z_zret () hx hb hr hlocks hK hP hD hS hAe hQ rfl (Or.inr (Or.inl ⟨rfl, f5, f6⟩)) (by decide) dX9_isSlot_9
  · exact z_zret () hx hb hr hlocks hK hP hD hS hAe hQ rfl (Or.inr (Or.inr ⟨rfl, f7, f8⟩)) (by decide) dX9_isSlot_9
set_option maxHeartbeats 4000000 in
set_option maxRecDepth 100000 in
theorem c_X9_row_142 (l : Launch) (dC : Nat → ClassId) (dI : Nat → Nat → Nat) (cB cI cJ cZ cP cQ : ClassId) (am : Nat → Nat) (sz : Nat) (p1 : Int32) (p2 : Int32) (p3 : Int32) : Met l yX9_row wsX9_row ({ frames := 2, cells := 0, slots := 0, locals := 45 } : Room) (zPc [.ref (am 0), .int p1, .int p2, .int p3] (dC, dI) (zT cB cI cJ cZ cP cQ) [(am 0, .inr (9, mf0 am)), (am 1, .inl (cI, 4, .inl (fun _ => (-1)))), (am 2, .inl (cI, 4, .inl (fun _ => 0))), (am 3, .inl (cJ, 240, .inr (.inl (fun _ => 0))))] sz [] []) (va_Qi (fun r _ => (fun r => (r = (-2) ∧ p1.toInt < 0) ∨ (r = (-2) ∧ 0 ≤ p1.toInt ∧ 3 < p1.toInt) ∨ (r = (-2) ∧ 0 ≤ p1.toInt ∧ p1.toInt ≤ 3 ∧ p2.toInt < 0) ∨ (r = (-2) ∧ 0 ≤ p1.toInt ∧ p1.toInt ≤ 3 ∧ 0 ≤ p2.toInt ∧ 3 < p2.toInt) ∨ (r = 0 ∧ 0 ≤ p1.toInt ∧ p1.toInt ≤ 3 ∧ 0 ≤ p2.toInt ∧ p2.toInt ≤ 3 ∧ p3.toInt ≤ 60 ∧ 0 ≤ p3.toInt) ∨ (r = (-3) ∧ 0 ≤ p1.toInt ∧ p1.toInt ≤ 3 ∧ 0 ≤ p2.toInt ∧ p2.toInt ≤ 3 ∧ p3.toInt ≤ 60 ∧ p3.toInt < 0) ∨ (r = (-2) ∧ 0 ≤ p1.toInt ∧ p1.toInt ≤ 3 ∧ 0 ≤ p2.toInt ∧ p2.toInt ≤ 3 ∧ 60 < p3.toInt)) r) (zB (dC, dI) (zT cB cI cJ cZ cP cQ) (fun _ : Unit => []) [(am 0, .inr (9, mf0 am)), (am 1, .inl (cI, 4, .inl (fun _ => (-1)))), (am 2, .inl (cI, 4, .inl (fun _ => 0))), (am 3, .inl (cJ, 240, .inr (.inl (fun _ => 0))))] sz) (va_A [(am 0, .inr (9, mf0 am)), (am 1, .inl (cI, 4, .inl (fun _ => (-1)))), (am 2, .inl (cI, 4, .inl (fun _ => 0))), (am 3, .inl (cJ, 240, .inr (.inl (fun _ => 0))))] sz)) 0 0 (va_A [(am 0, .inr (9, mf0 am)), (am 1, .inl (cI, 4, .inl (fun _ => (-1)))), (am 2, .inl (cI, 4, .inl (fun _ => 0))), (am 3, .inl (cJ, 240, .inr (.inl (fun _ => 0))))] sz) := by
  refine z_enter (cc := cX9_row) (maxL := 5) (ret := (some .int)) (by decide) rfl (Nat.le_of_ble_eq_true rfl) ?_
  intro p e s m below meth c A ls Q H locs hx hb hr hml hown hts hlocks hin hK hP hD hA hX hS hAe hQ hl
  have hown : s.vm.findClass RX9 = some m.cls := hown
  have hi9 : ∀ w ∈ wsX90, w ∈ wsX9_row := fun w h => List.mem_cons_of_mem _ (List.mem_append_right _ h)
  have hk0 := hts (.fieldLink RX9 125 "MonthPushModel" "thrown" "I") (by decide +kernel)
  have hk1 := hts (.constantLong RX9 128 3) (by decide +kernel)
  have hk2 := hts (.fieldLink RX9 7 "MonthPushModel" "width" "[I") (by decide +kernel)
  have hk3 := hts (.fieldLink RX9 13 "MonthPushModel" "many" "[I") (by decide +kernel)
  have hk4 := hts (.fieldLink RX9 16 "MonthPushModel" "cells" "[J") (by decide +kernel)
  have hl : lv_has ls 5 [(0, .ref (am 0)), (1, .int p1), (2, .int p2), (3, .int p3)] := hl
  refine lv_aload_n hx hb dX9_row_0 rfl (lv_at hl 0 rfl) ?_
  refine lv_iconst (v := 0) hx hb dX9_row_1 (by decide) ?_
  refine z_put0 (D := (dC, dI)) (ci := 9) (v := .int 0) (ty := .int) (C := RX9) (T := TX9) (N := 60) hx hb hts hi9 tyX9 tyX9_ok nmX9 hown hK hP hD hS 0 rfl rfl 0 (by decide) hk0 (fun _ h9 => h9) rfl (by decide +kernel) rfl rfl rfl dX9_row_2 (fun H locs hP hS => ?_)
  refine lv_iload_n hx hb dX9_row_5 rfl (lv_at hl 1 rfl) ?_
  refine z_fini (w' := fun (u1 : Unit) => [(am 0, .inr (9, mf0 am)), (am 1, .inl (cI, 4, .inl (fun _ => (-1)))), (am 2, .inl (cI, 4, .inl (fun _ => 0))), (am 3, .inl (cJ, 240, .inr (.inl (fun _ => 0))))]) (va_runS (As := [.int p1]) (rest := []) ⟨hx, hb, hml, hown, hts⟩ (c_X9_isSlot_142 l dC dI cB cI cJ cZ cP cQ H.size p1) (va_cwS 1 hts gX9_row_X9_isSlot rfl rfl rfl (by decide +kernel) ⟨Nat.le_of_ble_eq_true rfl, Nat.le_of_ble_eq_true rfl⟩) (z_pS hK hP hD zX_nil [] (by decide) rfl) rfl rfl hl.1 rfl (lv_room (Nat.le_of_ble_eq_true rfl)) dX9_row_6 ⟨Nat.le_of_ble_eq_true rfl, Nat.le_of_ble_eq_true rfl⟩) hP hD hS hA [] [0, 1, 2, 3] [0, 1, 2, 3] rfl rfl (by decide) (by decide) (fun _ => rfl) (by decide) (fun r2 u1 H locs hp3 hP hD hS => ?_)
  have hP : va_P (dC, dI) vwCl [(am 0, .inr (9, mf0 am)), (am 1, .inl (cI, 4, .inl (fun _ => (-1)))), (am 2, .inl (cI, 4, .inl (fun _ => 0))), (am 3, .inl (cJ, 240, .inr (.inl (fun _ => 0))))] H := hP
  have hD : va_D A [(am 0, .inr (9, mf0 am)), (am 1, .inl (cI, 4, .inl (fun _ => (-1)))), (am 2, .inl (cI, 4, .inl (fun _ => 0))), (am 3, .inl (cJ, 240, .inr (.inl (fun _ => 0))))] := hD
  refine W.widen (k := 0) (n := 0) (by decide) (by decide) ?_
  rcases hp3 with ⟨rfl, f4⟩ | ⟨rfl, f5, f6⟩ | ⟨rfl, f7, f8⟩
  · refine lv_if_eq (tgt := 30) hx hb dX9_row_9 (by decide) (fun _ => ?_) (fun c => absurd (by decide) c)
    refine lv_bipush (v := (-2)) hx hb dX9_row_30 (by decide) ?_
    have hP9 := hP.sub (ws' := []) [] rfl
    have hD9 := hD.sub (ws' := []) [] (by decide) rfl
    exact z_iret () hx hb hr hlocks hK hP9 hD9 hS hAe hQ rfl (Or.inl (⟨rfl, f4⟩)) dX9_row_32
  · refine lv_if_eq (tgt := 30) hx hb dX9_row_9 (by decide) (fun _ => ?_) (fun c => absurd (by decide) c)
    refine lv_bipush (v := (-2)) hx hb dX9_row_30 (by decide) ?_
    have hP9 := hP.sub (ws' := []) [] rfl
    have hD9 := hD.sub (ws' := []) [] (by decide) rfl
    exact z_iret () hx hb hr hlocks hK hP9 hD9 hS hAe hQ rfl (Or.inr (Or.inl ⟨rfl, f5, f6⟩)) dX9_row_32
  · refine lv_if_eq (tgt := 30) hx hb dX9_row_9 (by decide) (fun c => absurd c (by decide)) (fun _ => ?_)
    refine lv_iload_n hx hb dX9_row_12 rfl (lv_at hl 2 rfl) ?_
    refine lv_i2l hx hb dX9_row_13 rfl ?_
    refine lv_lconst (v := 0) hx hb dX9_row_14 (by decide) ?_
    refine lv_ldc2 hx hb hown hk1 dX9_row_15 ?_
    refine z_fini (w' := fun (u9 : Unit) => [(am 0, .inr (9, mf0 am)), (am 1, .inl (cI, 4, .inl (fun _ => (-1)))), (am 2, .inl (cI, 4, .inl (fun _ => 0))), (am 3, .inl (cJ, 240, .inr (.inl (fun _ => 0))))]) (va_runS (As := [.long p2.toInt64, .long 0, .long 3]) (rest := []) ⟨hx, hb, hml, hown, hts⟩ (c_X9_in_142 l dC dI cB cI cJ cZ cP cQ H.size p2) (va_cwS 3 hts gX9_row_X9_in rfl rfl rfl (by decide +kernel) ⟨Nat.le_of_ble_eq_true rfl, Nat.le_of_ble_eq_true rfl⟩) (z_pS hK hP hD zX_nil [] (by decide) rfl) rfl rfl hl.1 rfl (lv_room (Nat.le_of_ble_eq_true rfl)) dX9_row_18 ⟨Nat.le_of_ble_eq_true rfl, Nat.le_of_ble_eq_true rfl⟩) hP hD hS hA [] [0, 1, 2, 3] [0, 1, 2, 3] rfl rfl (by decide) (by decide) (fun _ => rfl) (by decide) (fun r10 u9 H locs hp11 hP hD hS => ?_)
    have hP : va_P (dC, dI) vwCl [(am 0, .inr (9, mf0 am)), (am 1, .inl (cI, 4, .inl (fun _ => (-1)))), (am 2, .inl (cI, 4, .inl (fun _ => 0))), (am 3, .inl (cJ, 240, .inr (.inl (fun _ => 0))))] H := hP
    have hD : va_D A [(am 0, .inr (9, mf0 am)), (am 1, .inl (cI, 4, .inl (fun _ => (-1)))), (am 2, .inl (cI, 4, .inl (fun _ => 0))), (am 3, .inl (cJ, 240, .inr (.inl (fun _ => 0))))] := hD
    refine W.widen (k := 0) (n := 0) (by decide) (by decide) ?_
    rcases hp11 with ⟨rfl, f12⟩ | ⟨rfl, f13, f14⟩ | ⟨rfl, f15, f16⟩
    · refine lv_if_eq (tgt := 30) hx hb dX9_row_21 (by decide) (fun _ => ?_) (fun c => absurd (by decide) c)
      refine lv_bipush (v := (-2)) hx hb dX9_row_30 (by decide) ?_
      have hP9 := hP.sub (ws' := []) [] rfl
      have hD9 := hD.sub (ws' := []) [] (by decide) rfl
      exact z_iret () hx hb hr hlocks hK hP9 hD9 hS hAe hQ rfl (Or.inr (Or.inr (Or.inl ⟨rfl, f7, f8, f12⟩))) dX9_row_32
    · refine lv_if_eq (tgt := 30) hx hb dX9_row_21 (by decide) (fun _ => ?_) (fun c => absurd (by decide) c)
      refine lv_bipush (v := (-2)) hx hb dX9_row_30 (by decide) ?_
      have hP9 := hP.sub (ws' := []) [] rfl
      have hD9 := hD.sub (ws' := []) [] (by decide) rfl
      exact z_iret () hx hb hr hlocks hK hP9 hD9 hS hAe hQ rfl (Or.inr (Or.inr (Or.inr (Or.inl ⟨rfl, f7, f8, f13, f14⟩)))) dX9_row_32
    · refine lv_if_eq (tgt := 30) hx hb dX9_row_21 (by decide) (fun c => absurd c (by decide)) (fun _ => ?_)
      refine lv_iload_n hx hb dX9_row_24 rfl (lv_at hl 3 rfl) ?_
      refine lv_bipush (v := 60) hx hb dX9_row_25 (by decide) ?_
      refine lv_icmp_le (tgt := 33) hx hb dX9_row_27 (by decide) (fun c_17 => ?_) (fun c_17 => ?_)
      · have f18 : p3.toInt ≤ 60 := z_le rfl (by decide) c_17
        refine lv_iload_n hx hb dX9_row_33 rfl (lv_at hl 3 rfl) ?_
        refine lv_if_ge (tgt := 40) hx hb dX9_row_34 (by decide) (fun c_19 => ?_) (fun c_19 => ?_)
        · have f20 : 0 ≤ p3.toInt := z_le (by decide) rfl c_19
          refine lv_aload_n hx hb dX9_row_40 rfl (lv_at hl 0 rfl) ?_
          refine va_get (D := (dC, dI)) (ci := 9) (v := .ref (am 1)) (C := RX9) (T := TX9) (N := 60) hx hb hts hi9 hown hK hP 0 rfl rfl 1 (by decide) hk2 (fun _ h9 => h9) rfl dX9_row_41 ?_
          refine lv_iload_n hx hb dX9_row_44 rfl (lv_at hl 1 rfl) ?_
          refine lv_iload_n hx hb dX9_row_45 rfl (lv_at hl 2 rfl) ?_
          refine va_iast hx hb hK hP hD hS 1 1 rfl rfl (z_in rfl (by omega) (by omega)) dX9_row_46 (fun H locs hP hD hS => ?_)
          have hP : va_P (dC, dI) vwCl [(am 0, .inr (9, mf0 am)), (am 1, .inl (cI, 4, .inl (upd (fun _ => (-1)) (Int32.toNatClampNeg p1) p2))), (am 2, .inl (cI, 4, .inl (fun _ => 0))), (am 3, .inl (cJ, 240, .inr (.inl (fun _ => 0))))] H := hP
          have hD : va_D A [(am 0, .inr (9, mf0 am)), (am 1, .inl (cI, 4, .inl (upd (fun _ => (-1)) (Int32.toNatClampNeg p1) p2))), (am 2, .inl (cI, 4, .inl (fun _ => 0))), (am 3, .inl (cJ, 240, .inr (.inl (fun _ => 0))))] := hD
          obtain ⟨gg21, hgg21⟩ : ∃ g : Nat → Int32, g = upd (fun _ => (-1)) (Int32.toNatClampNeg p1) p2 := ⟨_, rfl⟩
          rw [← hgg21] at hP hD
          refine lv_aload_n hx hb dX9_row_47 rfl (lv_at hl 0 rfl) ?_
          refine va_get (D := (dC, dI)) (ci := 9) (v := .ref (am 2)) (C := RX9) (T := TX9) (N := 60) hx hb hts hi9 hown hK hP 0 rfl rfl 2 (by decide) hk3 (fun _ h9 => h9) rfl dX9_row_48 ?_
          refine lv_iload_n hx hb dX9_row_51 rfl (lv_at hl 1 rfl) ?_
          refine lv_iload_n hx hb dX9_row_52 rfl (lv_at hl 3 rfl) ?_
          refine va_iast hx hb hK hP hD hS 2 1 rfl rfl (z_in rfl (by omega) (by omega)) dX9_row_53 (fun H locs hP hD hS => ?_)
          have hP : va_P (dC, dI) vwCl [(am 0, .inr (9, mf0 am)), (am 1, .inl (cI, 4, .inl gg21)), (am 2, .inl (cI, 4, .inl (upd (fun _ => 0) (Int32.toNatClampNeg p1) p3))), (am 3, .inl (cJ, 240, .inr (.inl (fun _ => 0))))] H := hP
          have hD : va_D A [(am 0, .inr (9, mf0 am)), (am 1, .inl (cI, 4, .inl gg21)), (am 2, .inl (cI, 4, .inl (upd (fun _ => 0) (Int32.toNatClampNeg p1) p3))), (am 3, .inl (cJ, 240, .inr (.inl (fun _ => 0))))] := hD
          obtain ⟨gg22, hgg22⟩ : ∃ g : Nat → Int32, g = upd (fun _ => 0) (Int32.toNatClampNeg p1) p3 := ⟨_, rfl⟩
          rw [← hgg22] at hP hD
          refine lv_iconst (v := 0) hx hb dX9_row_54 (by decide) ?_
          obtain rfl | rfl | rfl | rfl : p1 = 0 ∨ p1 = 1 ∨ p1 = 2 ∨ p1 = 3 := z_cases4  (by omega) (by omega)
          · have hP : va_P (dC, dI) vwCl [(am 0, .inr (9, mf0 am)), (am 1, .inl (cI, 4, .inl gg21)), (am 2, .inl (cI, 4, .inl gg22)), (am 3, .inl (cJ, 240, .inr (.inl (fun _ => 0))))] H := by assumption
            have hD : va_D A [(am 0, .inr (9, mf0 am)), (am 1, .inl (cI, 4, .inl gg21)), (am 2, .inl (cI, 4, .inl gg22)), (am 3, .inl (cJ, 240, .inr (.inl (fun _ => 0))))] := by assumption
            refine lv_istore (lv' := [(4, .int 0), (0, .ref (am 0)), (1, .int 0), (2, .int p2), (3, .int p3)]) hx hb dX9_row_55 hl (by decide) rfl (fun ls hl => ?_)
            obtain ⟨N23, hN24, rfl⟩ : ∃ N : Nat, N ≤ 60 ∧ p3 = nI N := z_toNat (by omega) (by omega)
            have hP : va_P (dC, dI) vwCl [(am 0, .inr (9, mf0 am)), (am 1, .inl (cI, 4, .inl gg21)), (am 2, .inl (cI, 4, .inl gg22)), (am 3, .inl (cJ, 240, .inr (.inl (fun _ => 0))))] H := by assumption
            have hD : va_D A [(am 0, .inr (9, mf0 am)), (am 1, .inl (cI, 4, .inl gg21)), (am 2, .inl (cI, 4, .inl gg22)), (am 3, .inl (cJ, 240, .inr (.inl (fun _ => 0))))] := by assumption
            have hlp25 : ∀ (n i : Nat), i + n = N23 → 0 ≤ i → ∀ (H : Heap) (locs : List Loc), va_P (dC, dI) vwCl [(am 0, .inr (9, mf0 am)), (am 1, .inl (cI, 4, .inl gg21)), (am 2, .inl (cI, 4, .inl gg22)), (am 3, .inl (cJ, 240, .inr (.inl (fun _ => 0))))] H → va_S A s.heap H locs → ∀ (ls : Array Slot), lv_has ls 5 [(4, .int (nI i)), (0, .ref (am 0)), (1, .int 0), (2, .int p2), (3, .int (nI N23))] → W p l e ({ frames := 2, cells := 0, slots := 0, locals := 45 } : Room) s m ([.ref (am 0), .int 0, .int p2, .int (nI N23)] : List Value).toArray below meth c H locs 0 0 Q (F0 m 57 ls []) := by
              intro n
              induction n with
              | zero =>
                intro i hi hi0 H locs hP hS ls hl
                have hiN : i = N23 := by omega
                refine lv_iload hx hb dX9_row_57 (lv_at hl 0 rfl) ?_
                refine lv_iload_n hx hb dX9_row_59 rfl (lv_at hl 4 rfl) ?_
                refine lv_icmp_ge (tgt := 82) hx hb dX9_row_60 (by decide) (fun _ => ?_) (fun c => absurd (show (i : Int) < (N23 : Int) from z_nle (nI_toInt (by omega)) (nI_toInt (by omega)) c) (by omega))
                refine lv_iconst (v := 0) hx hb dX9_row_82 (by decide) ?_
                have hP9 := hP.sub (ws' := []) [] rfl
                have hD9 := hD.sub (ws' := []) [] (by decide) rfl
                exact z_iret () hx hb hr hlocks hK hP9 hD9 hS hAe hQ rfl (Or.inr (Or.inr (Or.inr (Or.inr (Or.inl ⟨rfl, f7, f8, f15, f16, f18, f20⟩))))) dX9_row_83
              | succ n ih =>
                intro i hi hi0 H locs hP hS ls hl
                have hlt : i < N23 := by omega
                refine lv_iload hx hb dX9_row_57 (lv_at hl 0 rfl) ?_
                refine lv_iload_n hx hb dX9_row_59 rfl (lv_at hl 4 rfl) ?_
                refine lv_icmp_ge (tgt := 82) hx hb dX9_row_60 (by decide) (fun c => absurd (show (N23 : Int) ≤ (i : Int) from z_le (nI_toInt (by omega)) (nI_toInt (by omega)) c) (by omega)) (fun _ => ?_)
                refine lv_aload_n hx hb dX9_row_63 rfl (lv_at hl 1 rfl) ?_
                refine va_get (D := (dC, dI)) (ci := 9) (v := .ref (am 3)) (C := RX9) (T := TX9) (N := 60) hx hb hts hi9 hown hK hP 0 rfl rfl 3 (by decide) hk4 (fun _ h9 => h9) rfl dX9_row_64 ?_
                refine lv_bipush (v := 60) hx hb dX9_row_67 (by decide) ?_
                refine lv_iload_n hx hb dX9_row_69 rfl (lv_at hl 2 rfl) ?_
                refine lv_imul hx hb dX9_row_70 ?_
                refine z_topi (y := 0) (by decide +kernel) ?_
                refine lv_iload hx hb dX9_row_71 (lv_at hl 0 rfl) ?_
                refine lv_iadd hx hb dX9_row_73 ?_
                refine z_topi (y := nI (0 + i)) (nI_add 0 i) ?_
                refine lv_lconst (v := 0) hx hb dX9_row_74 (by decide) ?_
                refine z_last0 hx hb hK hP hD hS 3 2 rfl rfl (z_in (nI_toInt (by omega)) (by omega) (by omega)) rfl dX9_row_75 (fun H locs hP hS => ?_)
                refine lv_iinc (v := nI (i + 1)) (lv' := [(4, .int (nI (i + 1))), (0, .ref (am 0)), (1, .int 0), (2, .int p2), (3, .int (nI N23))]) hx hb dX9_row_76 hl (k := 0) rfl (nI_1 i) (by decide) rfl (fun ls hl => ?_)
                refine lv_goto (tgt := 57) hx hb dX9_row_79 (by decide) ?_
                exact ih (i + 1) (by omega) (by omega) _ _ hP hS ls (lv_sub hl [0, 1, 2, 3, 4] rfl)
            exact hlp25 N23 0 (by omega) (by omega) _ _ hP hS ls (lv_sub hl [0, 1, 2, 3, 4] rfl)
          · have hP : va_P (dC, dI) vwCl [(am 0, .inr (9, mf0 am)), (am 1, .inl (cI, 4, .inl gg21)), (am 2, .inl (cI, 4, .inl gg22)), (am 3, .inl (cJ, 240, .inr (.inl (fun _ => 0))))] H := by assumption
            have hD : va_D A [(am 0, .inr (9, mf0 am)), (am 1, .inl (cI, 4, .inl gg21)), (am 2, .inl (cI, 4, .inl gg22)), (am 3, .inl (cJ, 240, .inr (.inl (fun _ => 0))))] := by assumption
            refine lv_istore (lv' := [(4, .int 0), (0, .ref (am 0)), (1, .int 1), (2, .int p2), (3, .int p3)]) hx hb dX9_row_55 hl (by decide) rfl (fun ls hl => ?_)
            obtain ⟨N26, hN27, rfl⟩ : ∃ N : Nat, N ≤ 60 ∧ p3 = nI N := z_toNat (by omega) (by omega)
            have hP : va_P (dC, dI) vwCl [(am 0, .inr (9, mf0 am)), (am 1, .inl (cI, 4, .inl gg21)), (am 2, .inl (cI, 4, .inl gg22)), (am 3, .inl (cJ, 240, .inr (.inl (fun _ => 0))))] H := by assumption
            have hD : va_D A [(am 0, .inr (9, mf0 am)), (am 1, .inl (cI, 4, .inl gg21)), (am 2, .inl (cI, 4, .inl gg22)), (am 3, .inl (cJ, 240, .inr (.inl (fun _ => 0))))] := by assumption
            have hlp28 : ∀ (n i : Nat), i + n = N26 → 0 ≤ i → ∀ (H : Heap) (locs : List Loc), va_P (dC, dI) vwCl [(am 0, .inr (9, mf0 am)), (am 1, .inl (cI, 4, .inl gg21)), (am 2, .inl (cI, 4, .inl gg22)), (am 3, .inl (cJ, 240, .inr (.inl (fun _ => 0))))] H → va_S A s.heap H locs → ∀ (ls : Array Slot), lv_has ls 5 [(4, .int (nI i)), (0, .ref (am 0)), (1, .int 1), (2, .int p2), (3, .int (nI N26))] → W p l e ({ frames := 2, cells := 0, slots := 0, locals := 45 } : Room) s m ([.ref (am 0), .int 1, .int p2, .int (nI N26)] : List Value).toArray below meth c H locs 0 0 Q (F0 m 57 ls []) := by
              intro n
              induction n with
              | zero =>
                intro i hi hi0 H locs hP hS ls hl
                have hiN : i = N26 := by omega
                refine lv_iload hx hb dX9_row_57 (lv_at hl 0 rfl) ?_
                refine lv_iload_n hx hb dX9_row_59 rfl (lv_at hl 4 rfl) ?_
                refine lv_icmp_ge (tgt := 82) hx hb dX9_row_60 (by decide) (fun _ => ?_) (fun c => absurd (show (i : Int) < (N26 : Int) from z_nle (nI_toInt (by omega)) (nI_toInt (by omega)) c) (by omega))
                refine lv_iconst (v := 0) hx hb dX9_row_82 (by decide) ?_
                have hP9 := hP.sub (ws' := []) [] rfl
                have hD9 := hD.sub (ws' := []) [] (by decide) rfl
                exact z_iret () hx hb hr hlocks hK hP9 hD9 hS hAe hQ rfl (Or.inr (Or.inr (Or.inr (Or.inr (Or.inl ⟨rfl, f7, f8, f15, f16, f18, f20⟩))))) dX9_row_83
              | succ n ih =>
                intro i hi hi0 H locs hP hS ls hl
                have hlt : i < N26 := by omega
                refine lv_iload hx hb dX9_row_57 (lv_at hl 0 rfl) ?_
                refine lv_iload_n hx hb dX9_row_59 rfl (lv_at hl 4 rfl) ?_
                refine lv_icmp_ge (tgt := 82) hx hb dX9_row_60 (by decide) (fun c => absurd (show (N26 : Int) ≤ (i : Int) from z_le (nI_toInt (by omega)) (nI_toInt (by omega)) c) (by omega)) (fun _ => ?_)
                refine lv_aload_n hx hb dX9_row_63 rfl (lv_at hl 1 rfl) ?_
                refine va_get (D := (dC, dI)) (ci := 9) (v := .ref (am 3)) (C := RX9) (T := TX9) (N := 60) hx hb hts hi9 hown hK hP 0 rfl rfl 3 (by decide) hk4 (fun _ h9 => h9) rfl dX9_row_64 ?_
                refine lv_bipush (v := 60) hx hb dX9_row_67 (by decide) ?_
                refine lv_iload_n hx hb dX9_row_69 rfl (lv_at hl 2 rfl) ?_
                refine lv_imul hx hb dX9_row_70 ?_
                refine z_topi (y := 60) (by decide +kernel) ?_
                refine lv_iload hx hb dX9_row_71 (lv_at hl 0 rfl) ?_
                refine lv_iadd hx hb dX9_row_73 ?_
                refine z_topi (y := nI (60 + i)) (nI_add 60 i) ?_
                refine lv_lconst (v := 0) hx hb dX9_row_74 (by decide) ?_
                refine z_last0 hx hb hK hP hD hS 3 2 rfl rfl (z_in (nI_toInt (by omega)) (by omega) (by omega)) rfl dX9_row_75 (fun H locs hP hS => ?_)
                refine lv_iinc (v := nI (i + 1)) (lv' := [(4, .int (nI (i + 1))), (0, .ref (am 0)), (1, .int 1), (2, .int p2), (3, .int (nI N26))]) hx hb dX9_row_76 hl (k := 0) rfl (nI_1 i) (by decide) rfl (fun ls hl => ?_)
                refine lv_goto (tgt := 57) hx hb dX9_row_79 (by decide) ?_
                exact ih (i + 1) (by omega) (by omega) _ _ hP hS ls (lv_sub hl [0, 1, 2, 3, 4] rfl)
            exact hlp28 N26 0 (by omega) (by omega) _ _ hP hS ls (lv_sub hl [0, 1, 2, 3, 4] rfl)
          · have hP : va_P (dC, dI) vwCl [(am 0, .inr (9, mf0 am)), (am 1, .inl (cI, 4, .inl gg21)), (am 2, .inl (cI, 4, .inl gg22)), (am 3, .inl (cJ, 240, .inr (.inl (fun _ => 0))))] H := by assumption
            have hD : va_D A [(am 0, .inr (9, mf0 am)), (am 1, .inl (cI, 4, .inl gg21)), (am 2, .inl (cI, 4, .inl gg22)), (am 3, .inl (cJ, 240, .inr (.inl (fun _ => 0))))] := by assumption
            refine lv_istore (lv' := [(4, .int 0), (0, .ref (am 0)), (1, .int 2), (2, .int p2), (3, .int p3)]) hx hb dX9_row_55 hl (by decide) rfl (fun ls hl => ?_)
            obtain ⟨N29, hN30, rfl⟩ : ∃ N : Nat, N ≤ 60 ∧ p3 = nI N := z_toNat (by omega) (by omega)
            have hP : va_P (dC, dI) vwCl [(am 0, .inr (9, mf0 am)), (am 1, .inl (cI, 4, .inl gg21)), (am 2, .inl (cI, 4, .inl gg22)), (am 3, .inl (cJ, 240, .inr (.inl (fun _ => 0))))] H := by assumption
            have hD : va_D A [(am 0, .inr (9, mf0 am)), (am 1, .inl (cI, 4, .inl gg21)), (am 2, .inl (cI, 4, .inl gg22)), (am 3, .inl (cJ, 240, .inr (.inl (fun _ => 0))))] := by assumption
            have hlp31 : ∀ (n i : Nat), i + n = N29 → 0 ≤ i → ∀ (H : Heap) (locs : List Loc), va_P (dC, dI) vwCl [(am 0, .inr (9, mf0 am)), (am 1, .inl (cI, 4, .inl gg21)), (am 2, .inl (cI, 4, .inl gg22)), (am 3, .inl (cJ, 240, .inr (.inl (fun _ => 0))))] H → va_S A s.heap H locs → ∀ (ls : Array Slot), lv_has ls 5 [(4, .int (nI i)), (0, .ref (am 0)), (1, .int 2), (2, .int p2), (3, .int (nI N29))] → W p l e ({ frames := 2, cells := 0, slots := 0, locals := 45 } : Room) s m ([.ref (am 0), .int 2, .int p2, .int (nI N29)] : List Value).toArray below meth c H locs 0 0 Q (F0 m 57 ls []) := by
              intro n
              induction n with
              | zero =>
                intro i hi hi0 H locs hP hS ls hl
                have hiN : i = N29 := by omega
                refine lv_iload hx hb dX9_row_57 (lv_at hl 0 rfl) ?_
                refine lv_iload_n hx hb dX9_row_59 rfl (lv_at hl 4 rfl) ?_
                refine lv_icmp_ge (tgt := 82) hx hb dX9_row_60 (by decide) (fun _ => ?_) (fun c => absurd (show (i : Int) < (N29 : Int) from z_nle (nI_toInt (by omega)) (nI_toInt (by omega)) c) (by omega))
                refine lv_iconst (v := 0) hx hb dX9_row_82 (by decide) ?_
                have hP9 := hP.sub (ws' := []) [] rfl
                have hD9 := hD.sub (ws' := []) [] (by decide) rfl
                exact z_iret () hx hb hr hlocks hK hP9 hD9 hS hAe hQ rfl (Or.inr (Or.inr (Or.inr (Or.inr (Or.inl ⟨rfl, f7, f8, f15, f16, f18, f20⟩))))) dX9_row_83
              | succ n ih =>
                intro i hi hi0 H locs hP hS ls hl
                have hlt : i < N29 := by omega
                refine lv_iload hx hb dX9_row_57 (lv_at hl 0 rfl) ?_
                refine lv_iload_n hx hb dX9_row_59 rfl (lv_at hl 4 rfl) ?_
                refine lv_icmp_ge (tgt := 82) hx hb dX9_row_60 (by decide) (fun c => absurd (show (N29 : Int) ≤ (i : Int) from z_le (nI_toInt (by omega)) (nI_toInt (by omega)) c) (by omega)) (fun _ => ?_)
                refine lv_aload_n hx hb dX9_row_63 rfl (lv_at hl 1 rfl) ?_
                refine va_get (D := (dC, dI)) (ci := 9) (v := .ref (am 3)) (C := RX9) (T := TX9) (N := 60) hx hb hts hi9 hown hK hP 0 rfl rfl 3 (by decide) hk4 (fun _ h9 => h9) rfl dX9_row_64 ?_
                refine lv_bipush (v := 60) hx hb dX9_row_67 (by decide) ?_
                refine lv_iload_n hx hb dX9_row_69 rfl (lv_at hl 2 rfl) ?_
                refine lv_imul hx hb dX9_row_70 ?_
                refine z_topi (y := 120) (by decide +kernel) ?_
                refine lv_iload hx hb dX9_row_71 (lv_at hl 0 rfl) ?_
                refine lv_iadd hx hb dX9_row_73 ?_
                refine z_topi (y := nI (120 + i)) (nI_add 120 i) ?_
                refine lv_lconst (v := 0) hx hb dX9_row_74 (by decide) ?_
                refine z_last0 hx hb hK hP hD hS 3 2 rfl rfl (z_in (nI_toInt (by omega)) (by omega) (by omega)) rfl dX9_row_75 (fun H locs hP hS => ?_)
                refine lv_iinc (v := nI (i + 1)) (lv' := [(4, .int (nI (i + 1))), (0, .ref (am 0)), (1, .int 2), (2, .int p2), (3, .int (nI N29))]) hx hb dX9_row_76 hl (k := 0) rfl (nI_1 i) (by decide) rfl (fun ls hl => ?_)
                refine lv_goto (tgt := 57) hx hb dX9_row_79 (by decide) ?_
                exact ih (i + 1) (by omega) (by omega) _ _ hP hS ls (lv_sub hl [0, 1, 2, 3, 4] rfl)
            exact hlp31 N29 0 (by omega) (by omega) _ _ hP hS ls (lv_sub hl [0, 1, 2, 3, 4] rfl)
          · have hP : va_P (dC, dI) vwCl [(am 0, .inr (9, mf0 am)), (am 1, .inl (cI, 4, .inl gg21)), (am 2, .inl (cI, 4, .inl gg22)), (am 3, .inl (cJ, 240, .inr (.inl (fun _ => 0))))] H := by assumption
            have hD : va_D A [(am 0, .inr (9, mf0 am)), (am 1, .inl (cI, 4, .inl gg21)), (am 2, .inl (cI, 4, .inl gg22)), (am 3, .inl (cJ, 240, .inr (.inl (fun _ => 0))))] := by assumption
            refine lv_istore (lv' := [(4, .int 0), (0, .ref (am 0)), (1, .int 3), (2, .int p2), (3, .int p3)]) hx hb dX9_row_55 hl (by decide) rfl (fun ls hl => ?_)
            obtain ⟨N32, hN33, rfl⟩ : ∃ N : Nat, N ≤ 60 ∧ p3 = nI N := z_toNat (by omega) (by omega)
            have hP : va_P (dC, dI) vwCl [(am 0, .inr (9, mf0 am)), (am 1, .inl (cI, 4, .inl gg21)), (am 2, .inl (cI, 4, .inl gg22)), (am 3, .inl (cJ, 240, .inr (.inl (fun _ => 0))))] H := by assumption
            have hD : va_D A [(am 0, .inr (9, mf0 am)), (am 1, .inl (cI, 4, .inl gg21)), (am 2, .inl (cI, 4, .inl gg22)), (am 3, .inl (cJ, 240, .inr (.inl (fun _ => 0))))] := by assumption
            have hlp34 : ∀ (n i : Nat), i + n = N32 → 0 ≤ i → ∀ (H : Heap) (locs : List Loc), va_P (dC, dI) vwCl [(am 0, .inr (9, mf0 am)), (am 1, .inl (cI, 4, .inl gg21)), (am 2, .inl (cI, 4, .inl gg22)), (am 3, .inl (cJ, 240, .inr (.inl (fun _ => 0))))] H → va_S A s.heap H locs → ∀ (ls : Array Slot), lv_has ls 5 [(4, .int (nI i)), (0, .ref (am 0)), (1, .int 3), (2, .int p2), (3, .int (nI N32))] → W p l e ({ frames := 2, cells := 0, slots := 0, locals := 45 } : Room) s m ([.ref (am 0), .int 3, .int p2, .int (nI N32)] : List Value).toArray below meth c H locs 0 0 Q (F0 m 57 ls []) := by
              intro n
              induction n with
              | zero =>
                intro i hi hi0 H locs hP hS ls hl
                have hiN : i = N32 := by omega
                refine lv_iload hx hb dX9_row_57 (lv_at hl 0 rfl) ?_
                refine lv_iload_n hx hb dX9_row_59 rfl (lv_at hl 4 rfl) ?_
                refine lv_icmp_ge (tgt := 82) hx hb dX9_row_60 (by decide) (fun _ => ?_) (fun c => absurd (show (i : Int) < (N32 : Int) from z_nle (nI_toInt (by omega)) (nI_toInt (by omega)) c) (by omega))
                refine lv_iconst (v := 0) hx hb dX9_row_82 (by decide) ?_
                have hP9 := hP.sub (ws' := []) [] rfl
                have hD9 := hD.sub (ws' := []) [] (by decide) rfl
                exact z_iret () hx hb hr hlocks hK hP9 hD9 hS hAe hQ rfl (Or.inr (Or.inr (Or.inr (Or.inr (Or.inl ⟨rfl, f7, f8, f15, f16, f18, f20⟩))))) dX9_row_83
              | succ n ih =>
                intro i hi hi0 H locs hP hS ls hl
                have hlt : i < N32 := by omega
                refine lv_iload hx hb dX9_row_57 (lv_at hl 0 rfl) ?_
                refine lv_iload_n hx hb dX9_row_59 rfl (lv_at hl 4 rfl) ?_
                refine lv_icmp_ge (tgt := 82) hx hb dX9_row_60 (by decide) (fun c => absurd (show (N32 : Int) ≤ (i : Int) from z_le (nI_toInt (by omega)) (nI_toInt (by omega)) c) (by omega)) (fun _ => ?_)
                refine lv_aload_n hx hb dX9_row_63 rfl (lv_at hl 1 rfl) ?_
                refine va_get (D := (dC, dI)) (ci := 9) (v := .ref (am 3)) (C := RX9) (T := TX9) (N := 60) hx hb hts hi9 hown hK hP 0 rfl rfl 3 (by decide) hk4 (fun _ h9 => h9) rfl dX9_row_64 ?_
                refine lv_bipush (v := 60) hx hb dX9_row_67 (by decide) ?_
                refine lv_iload_n hx hb dX9_row_69 rfl (lv_at hl 2 rfl) ?_
                refine lv_imul hx hb dX9_row_70 ?_
                refine z_topi (y := 180) (by decide +kernel) ?_
                refine lv_iload hx hb dX9_row_71 (lv_at hl 0 rfl) ?_
                refine lv_iadd hx hb dX9_row_73 ?_
                refine z_topi (y := nI (180 + i)) (nI_add 180 i) ?_
                refine lv_lconst (v := 0) hx hb dX9_row_74 (by decide) ?_
                refine z_last0 hx hb hK hP hD hS 3 2 rfl rfl (z_in (nI_toInt (by omega)) (by omega) (by omega)) rfl dX9_row_75 (fun H locs hP hS => ?_)
                refine lv_iinc (v := nI (i + 1)) (lv' := [(4, .int (nI (i + 1))), (0, .ref (am 0)), (1, .int 3), (2, .int p2), (3, .int (nI N32))]) hx hb dX9_row_76 hl (k := 0) rfl (nI_1 i) (by decide) rfl (fun ls hl => ?_)
                refine lv_goto (tgt := 57) hx hb dX9_row_79 (by decide) ?_
                exact ih (i + 1) (by omega) (by omega) _ _ hP hS ls (lv_sub hl [0, 1, 2, 3, 4] rfl)
            exact hlp34 N32 0 (by omega) (by omega) _ _ hP hS ls (lv_sub hl [0, 1, 2, 3, 4] rfl)
        · have f20 : p3.toInt < 0 := z_nle (by decide) rfl c_19
          refine lv_bipush (v := (-3)) hx hb dX9_row_37 (by decide) ?_
          have hP9 := hP.sub (ws' := []) [] rfl
          have hD9 := hD.sub (ws' := []) [] (by decide) rfl
          exact z_iret () hx hb hr hlocks hK hP9 hD9 hS hAe hQ rfl (Or.inr (Or.inr (Or.inr (Or.inr (Or.inr (Or.inl ⟨rfl, f7, f8, f15, f16, f18, f20⟩)))))) dX9_row_39
      · have f18 : 60 < p3.toInt := z_nle rfl (by decide) c_17
        refine lv_bipush (v := (-2)) hx hb dX9_row_30 (by decide) ?_
        have hP9 := hP.sub (ws' := []) [] rfl
        have hD9 := hD.sub (ws' := []) [] (by decide) rfl
        exact z_iret () hx hb hr hlocks hK hP9 hD9 hS hAe hQ rfl (Or.inr (Or.inr (Or.inr (Or.inr (Or.inr (Or.inr ⟨rfl, f7, f8, f15, f16, f18⟩)))))) dX9_row_32
set_option maxHeartbeats 4000000 in
set_option maxRecDepth 100000 in
theorem c_X9_write_143 (l : Launch) (dC : Nat → ClassId) (dI : Nat → Nat → Nat) (cB cI cJ cZ cP cQ : ClassId) (am : Nat → Nat) (sz : Nat) (p1 : Int32) (p2 : Int32) (p3 : Int64) : Met l yX9_write wsX9_write ({ frames := 2, cells := 0, slots := 0, locals := 45 } : Room) (zPc [.ref (am 0), .int p1, .int p2, .long p3] (dC, dI) (zT cB cI cJ cZ cP cQ) [(am 0, .inr (9, mf0 am)), (am 1, .inl (cI, 4, .inl (fun _ => (-1))))] sz [] []) (va_Qi (fun r _ => (fun r => (r = (-2) ∧ p1.toInt < 0) ∨ (r = (-2) ∧ 0 ≤ p1.toInt ∧ 3 < p1.toInt) ∨ (r = (-6) ∧ 0 ≤ p1.toInt ∧ p1.toInt ≤ 3)) r) (zB (dC, dI) (zT cB cI cJ cZ cP cQ) (fun _ : Unit => []) [(am 0, .inr (9, mf0 am)), (am 1, .inl (cI, 4, .inl (fun _ => (-1))))] sz) (va_A [(am 0, .inr (9, mf0 am)), (am 1, .inl (cI, 4, .inl (fun _ => (-1))))] sz)) 0 0 (va_A [(am 0, .inr (9, mf0 am)), (am 1, .inl (cI, 4, .inl (fun _ => (-1))))] sz) := by
  refine z_enter (cc := cX9_write) (maxL := 5) (ret := (some .int)) (by decide) rfl (Nat.le_of_ble_eq_true rfl) ?_
  intro p e s m below meth c A ls Q H locs hx hb hr hml hown hts hlocks hin hK hP hD hA hX hS hAe hQ hl
  have hown : s.vm.findClass RX9 = some m.cls := hown
  have hi9 : ∀ w ∈ wsX90, w ∈ wsX9_write := fun w h => List.mem_cons_of_mem _ (List.mem_append_right _ h)
  have hk0 := hts (.fieldLink RX9 125 "MonthPushModel" "thrown" "I") (by decide +kernel)
  have hk1 := hts (.fieldLink RX9 7 "MonthPushModel" "width" "[I") (by decide +kernel)
  have hl : lv_has ls 5 [(0, .ref (am 0)), (1, .int p1), (2, .int p2), (3, .long p3)] := hl
  refine lv_aload_n hx hb dX9_write_0 rfl (lv_at hl 0 rfl) ?_
  refine lv_iconst (v := 0) hx hb dX9_write_1 (by decide) ?_
  refine z_put0 (D := (dC, dI)) (ci := 9) (v := .int 0) (ty := .int) (C := RX9) (T := TX9) (N := 60) hx hb hts hi9 tyX9 tyX9_ok nmX9 hown hK hP hD hS 0 rfl rfl 0 (by decide) hk0 (fun _ h9 => h9) rfl (by decide +kernel) rfl rfl rfl dX9_write_2 (fun H locs hP hS => ?_)
  refine lv_iload_n hx hb dX9_write_5 rfl (lv_at hl 1 rfl) ?_
  refine z_fini (w' := fun (u1 : Unit) => [(am 0, .inr (9, mf0 am)), (am 1, .inl (cI, 4, .inl (fun _ => (-1))))]) (va_runS (As := [.int p1]) (rest := []) ⟨hx, hb, hml, hown, hts⟩ (c_X9_isSlot_142 l dC dI cB cI cJ cZ cP cQ H.size p1) (va_cwS 1 hts gX9_write_X9_isSlot rfl rfl rfl (by decide +kernel) ⟨Nat.le_of_ble_eq_true rfl, Nat.le_of_ble_eq_true rfl⟩) (z_pS hK hP hD zX_nil [] (by decide) rfl) rfl rfl hl.1 rfl (lv_room (Nat.le_of_ble_eq_true rfl)) dX9_write_6 ⟨Nat.le_of_ble_eq_true rfl, Nat.le_of_ble_eq_true rfl⟩) hP hD hS hA [] [0, 1] [0, 1] rfl rfl (by decide) (by decide) (fun _ => rfl) (by decide) (fun r2 u1 H locs hp3 hP hD hS => ?_)
  have hP : va_P (dC, dI) vwCl [(am 0, .inr (9, mf0 am)), (am 1, .inl (cI, 4, .inl (fun _ => (-1))))] H := hP
  have hD : va_D A [(am 0, .inr (9, mf0 am)), (am 1, .inl (cI, 4, .inl (fun _ => (-1))))] := hD
  refine W.widen (k := 0) (n := 0) (by decide) (by decide) ?_
  rcases hp3 with ⟨rfl, f4⟩ | ⟨rfl, f5, f6⟩ | ⟨rfl, f7, f8⟩
  · refine lv_if_ne (tgt := 15) hx hb dX9_write_9 (by decide) (fun c => absurd (by decide) c) (fun _ => ?_)
    refine lv_bipush (v := (-2)) hx hb dX9_write_12 (by decide) ?_
    have hP9 := hP.sub (ws' := []) [] rfl
    have hD9 := hD.sub (ws' := []) [] (by decide) rfl
    exact z_iret () hx hb hr hlocks hK hP9 hD9 hS hAe hQ rfl (Or.inl (⟨rfl, f4⟩)) dX9_write_14
  · refine lv_if_ne (tgt := 15) hx hb dX9_write_9 (by decide) (fun c => absurd (by decide) c) (fun _ => ?_)
    refine lv_bipush (v := (-2)) hx hb dX9_write_12 (by decide) ?_
    have hP9 := hP.sub (ws' := []) [] rfl
    have hD9 := hD.sub (ws' := []) [] (by decide) rfl
    exact z_iret () hx hb hr hlocks hK hP9 hD9 hS hAe hQ rfl (Or.inr (Or.inl ⟨rfl, f5, f6⟩)) dX9_write_14
  · refine lv_if_ne (tgt := 15) hx hb dX9_write_9 (by decide) (fun _ => ?_) (fun c => absurd c (by decide))
    refine lv_aload_n hx hb dX9_write_15 rfl (lv_at hl 0 rfl) ?_
    refine va_get (D := (dC, dI)) (ci := 9) (v := .ref (am 1)) (C := RX9) (T := TX9) (N := 60) hx hb hts hi9 hown hK hP 0 rfl rfl 1 (by decide) hk1 (fun _ h9 => h9) rfl dX9_write_16 ?_
    refine lv_iload_n hx hb dX9_write_19 rfl (lv_at hl 1 rfl) ?_
    refine va_iald hx hb hK hP 1 1 rfl rfl (z_in rfl (by omega) (by omega)) dX9_write_20 ?_
    refine z_topi (y := (-1)) rfl ?_
    refine lv_iconst (v := (-1)) hx hb dX9_write_21 (by decide) ?_
    refine lv_icmp_ne (tgt := 28) hx hb dX9_write_22 (by decide) (fun c => absurd (by decide) c) (fun _ => ?_)
    refine lv_bipush (v := (-6)) hx hb dX9_write_25 (by decide) ?_
    have hP9 := hP.sub (ws' := []) [] rfl
    have hD9 := hD.sub (ws' := []) [] (by decide) rfl
    exact z_iret () hx hb hr hlocks hK hP9 hD9 hS hAe hQ rfl (Or.inr (Or.inr ⟨rfl, f7, f8⟩)) dX9_write_27
set_option maxHeartbeats 4000000 in
set_option maxRecDepth 100000 in
theorem c_X9_paste_144 (l : Launch) (dC : Nat → ClassId) (dI : Nat → Nat → Nat) (cB cI cJ cZ cP cQ : ClassId) (am : Nat → Nat) (sz : Nat) (p1 : Int32) (p2 : Int32) (p3 : Int32) (p4 : Int32) (p5 : Int32) : Met l yX9_paste wsX9_paste ({ frames := 2, cells := 0, slots := 0, locals := 45 } : Room) (zPc [.ref (am 0), .int p1, .int p2, .int p3, .int p4, .int p5] (dC, dI) (zT cB cI cJ cZ cP cQ) [(am 0, .inr (9, mf0 am)), (am 1, .inl (cI, 4, .inl (fun _ => (-1))))] sz [] []) (va_Qi (fun r _ => (fun r => (r = (-2) ∧ p1.toInt < 0) ∨ (r = (-2) ∧ 0 ≤ p1.toInt ∧ 3 < p1.toInt) ∨ (r = (-2) ∧ 0 ≤ p1.toInt ∧ p1.toInt ≤ 3 ∧ p3.toInt < 0) ∨ (r = (-2) ∧ 0 ≤ p1.toInt ∧ p1.toInt ≤ 3 ∧ 0 ≤ p3.toInt ∧ 3 < p3.toInt) ∨ (r = (-6) ∧ 0 ≤ p1.toInt ∧ p1.toInt ≤ 3 ∧ 0 ≤ p3.toInt ∧ p3.toInt ≤ 3)) r) (zB (dC, dI) (zT cB cI cJ cZ cP cQ) (fun _ : Unit => []) [(am 0, .inr (9, mf0 am)), (am 1, .inl (cI, 4, .inl (fun _ => (-1))))] sz) (va_A [(am 0, .inr (9, mf0 am)), (am 1, .inl (cI, 4, .inl (fun _ => (-1))))] sz)) 0 0 (va_A [(am 0, .inr (9, mf0 am)), (am 1, .inl (cI, 4, .inl (fun _ => (-1))))] sz) := by
  refine z_enter (cc := cX9_paste) (maxL := 7) (ret := (some .int)) (by decide) rfl (Nat.le_of_ble_eq_true rfl) ?_
  intro p e s m below meth c A ls Q H locs hx hb hr hml hown hts hlocks hin hK hP hD hA hX hS hAe hQ hl
  have hown : s.vm.findClass RX9 = some m.cls := hown
  have hi9 : ∀ w ∈ wsX90, w ∈ wsX9_paste := fun w h => List.mem_cons_of_mem _ (List.mem_append_right _ h)
  have hk0 := hts (.fieldLink RX9 125 "MonthPushModel" "thrown" "I") (by decide +kernel)
  have hk1 := hts (.fieldLink RX9 7 "MonthPushModel" "width" "[I") (by decide +kernel)
  have hl : lv_has ls 7 [(0, .ref (am 0)), (1, .int p1), (2, .int p2), (3, .int p3), (4, .int p4), (5, .int p5)] := hl
  refine lv_aload_n hx hb dX9_paste_0 rfl (lv_at hl 0 rfl) ?_
  refine lv_iconst (v := 0) hx hb dX9_paste_1 (by decide) ?_
  refine z_put0 (D := (dC, dI)) (ci := 9) (v := .int 0) (ty := .int) (C := RX9) (T := TX9) (N := 60) hx hb hts hi9 tyX9 tyX9_ok nmX9 hown hK hP hD hS 0 rfl rfl 0 (by decide) hk0 (fun _ h9 => h9) rfl (by decide +kernel) rfl rfl rfl dX9_paste_2 (fun H locs hP hS => ?_)
  refine lv_iload_n hx hb dX9_paste_5 rfl (lv_at hl 1 rfl) ?_
  refine z_fini (w' := fun (u1 : Unit) => [(am 0, .inr (9, mf0 am)), (am 1, .inl (cI, 4, .inl (fun _ => (-1))))]) (va_runS (As := [.int p1]) (rest := []) ⟨hx, hb, hml, hown, hts⟩ (c_X9_isSlot_142 l dC dI cB cI cJ cZ cP cQ H.size p1) (va_cwS 1 hts gX9_paste_X9_isSlot rfl rfl rfl (by decide +kernel) ⟨Nat.le_of_ble_eq_true rfl, Nat.le_of_ble_eq_true rfl⟩) (z_pS hK hP hD zX_nil [] (by decide) rfl) rfl rfl hl.1 rfl (lv_room (Nat.le_of_ble_eq_true rfl)) dX9_paste_6 ⟨Nat.le_of_ble_eq_true rfl, Nat.le_of_ble_eq_true rfl⟩) hP hD hS hA [] [0, 1] [0, 1] rfl rfl (by decide) (by decide) (fun _ => rfl) (by decide) (fun r2 u1 H locs hp3 hP hD hS => ?_)
  have hP : va_P (dC, dI) vwCl [(am 0, .inr (9, mf0 am)), (am 1, .inl (cI, 4, .inl (fun _ => (-1))))] H := hP
  have hD : va_D A [(am 0, .inr (9, mf0 am)), (am 1, .inl (cI, 4, .inl (fun _ => (-1))))] := hD
  refine W.widen (k := 0) (n := 0) (by decide) (by decide) ?_
  rcases hp3 with ⟨rfl, f4⟩ | ⟨rfl, f5, f6⟩ | ⟨rfl, f7, f8⟩
  · refine lv_if_eq (tgt := 19) hx hb dX9_paste_9 (by decide) (fun _ => ?_) (fun c => absurd (by decide) c)
    refine lv_bipush (v := (-2)) hx hb dX9_paste_19 (by decide) ?_
    have hP9 := hP.sub (ws' := []) [] rfl
    have hD9 := hD.sub (ws' := []) [] (by decide) rfl
    exact z_iret () hx hb hr hlocks hK hP9 hD9 hS hAe hQ rfl (Or.inl (⟨rfl, f4⟩)) dX9_paste_21
  · refine lv_if_eq (tgt := 19) hx hb dX9_paste_9 (by decide) (fun _ => ?_) (fun c => absurd (by decide) c)
    refine lv_bipush (v := (-2)) hx hb dX9_paste_19 (by decide) ?_
    have hP9 := hP.sub (ws' := []) [] rfl
    have hD9 := hD.sub (ws' := []) [] (by decide) rfl
    exact z_iret () hx hb hr hlocks hK hP9 hD9 hS hAe hQ rfl (Or.inr (Or.inl ⟨rfl, f5, f6⟩)) dX9_paste_21
  · refine lv_if_eq (tgt := 19) hx hb dX9_paste_9 (by decide) (fun c => absurd c (by decide)) (fun _ => ?_)
    refine lv_iload_n hx hb dX9_paste_12 rfl (lv_at hl 3 rfl) ?_
    refine z_fini (w' := fun (u9 : Unit) => [(am 0, .inr (9, mf0 am)), (am 1, .inl (cI, 4, .inl (fun _ => (-1))))]) (va_runS (As := [.int p3]) (rest := []) ⟨hx, hb, hml, hown, hts⟩ (c_X9_isSlot_142 l dC dI cB cI cJ cZ cP cQ H.size p3) (va_cwS 1 hts gX9_paste_X9_isSlot rfl rfl rfl (by decide +kernel) ⟨Nat.le_of_ble_eq_true rfl, Nat.le_of_ble_eq_true rfl⟩) (z_pS hK hP hD zX_nil [] (by decide) rfl) rfl rfl hl.1 rfl (lv_room (Nat.le_of_ble_eq_true rfl)) dX9_paste_13 ⟨Nat.le_of_ble_eq_true rfl, Nat.le_of_ble_eq_true rfl⟩) hP hD hS hA [] [0, 1] [0, 1] rfl rfl (by decide) (by decide) (fun _ => rfl) (by decide) (fun r10 u9 H locs hp11 hP hD hS => ?_)
    have hP : va_P (dC, dI) vwCl [(am 0, .inr (9, mf0 am)), (am 1, .inl (cI, 4, .inl (fun _ => (-1))))] H := hP
    have hD : va_D A [(am 0, .inr (9, mf0 am)), (am 1, .inl (cI, 4, .inl (fun _ => (-1))))] := hD
    refine W.widen (k := 0) (n := 0) (by decide) (by decide) ?_
    rcases hp11 with ⟨rfl, f12⟩ | ⟨rfl, f13, f14⟩ | ⟨rfl, f15, f16⟩
    · refine lv_if_ne (tgt := 22) hx hb dX9_paste_16 (by decide) (fun c => absurd (by decide) c) (fun _ => ?_)
      refine lv_bipush (v := (-2)) hx hb dX9_paste_19 (by decide) ?_
      have hP9 := hP.sub (ws' := []) [] rfl
      have hD9 := hD.sub (ws' := []) [] (by decide) rfl
      exact z_iret () hx hb hr hlocks hK hP9 hD9 hS hAe hQ rfl (Or.inr (Or.inr (Or.inl ⟨rfl, f7, f8, f12⟩))) dX9_paste_21
    · refine lv_if_ne (tgt := 22) hx hb dX9_paste_16 (by decide) (fun c => absurd (by decide) c) (fun _ => ?_)
      refine lv_bipush (v := (-2)) hx hb dX9_paste_19 (by decide) ?_
      have hP9 := hP.sub (ws' := []) [] rfl
      have hD9 := hD.sub (ws' := []) [] (by decide) rfl
      exact z_iret () hx hb hr hlocks hK hP9 hD9 hS hAe hQ rfl (Or.inr (Or.inr (Or.inr (Or.inl ⟨rfl, f7, f8, f13, f14⟩)))) dX9_paste_21
    · refine lv_if_ne (tgt := 22) hx hb dX9_paste_16 (by decide) (fun _ => ?_) (fun c => absurd c (by decide))
      refine lv_aload_n hx hb dX9_paste_22 rfl (lv_at hl 0 rfl) ?_
      refine va_get (D := (dC, dI)) (ci := 9) (v := .ref (am 1)) (C := RX9) (T := TX9) (N := 60) hx hb hts hi9 hown hK hP 0 rfl rfl 1 (by decide) hk1 (fun _ h9 => h9) rfl dX9_paste_23 ?_
      refine lv_iload_n hx hb dX9_paste_26 rfl (lv_at hl 1 rfl) ?_
      refine va_iald hx hb hK hP 1 1 rfl rfl (z_in rfl (by omega) (by omega)) dX9_paste_27 ?_
      refine z_topi (y := (-1)) rfl ?_
      refine lv_iconst (v := (-1)) hx hb dX9_paste_28 (by decide) ?_
      refine lv_icmp_eq (tgt := 42) hx hb dX9_paste_29 (by decide) (fun _ => ?_) (fun c => absurd (by decide) c)
      refine lv_bipush (v := (-6)) hx hb dX9_paste_42 (by decide) ?_
      have hP9 := hP.sub (ws' := []) [] rfl
      have hD9 := hD.sub (ws' := []) [] (by decide) rfl
      exact z_iret () hx hb hr hlocks hK hP9 hD9 hS hAe hQ rfl (Or.inr (Or.inr (Or.inr (Or.inr ⟨rfl, f7, f8, f15, f16⟩)))) dX9_paste_44
set_option maxHeartbeats 4000000 in
set_option maxRecDepth 100000 in
theorem c_X9_four_146 (l : Launch) (dC : Nat → ClassId) (dI : Nat → Nat → Nat) (cB cI cJ cZ cP cQ : ClassId) (am : Nat → Nat) (sz : Nat) (p1 : Int32) : Met l yX9_four wsX9_four ({ frames := 0, cells := 0, slots := 0, locals := 0 } : Room) (zPc [.ref (am 0), .int p1] (dC, dI) (zT cB cI cJ cZ cP cQ) [(am 0, .inr (9, mf0 am)), (am 5, .inl (cB, 600, .inl (fun _ => 0)))] sz [] []) (va_Qv (fun _ => True) (zB (dC, dI) (zT cB cI cJ cZ cP cQ) (fun _ : Unit => [(am 0, .inr (9, ((mf0 am).set 6 (.int 4)))), (am 5, .inl (cB, 600, .inl (upd (upd (upd (upd (fun _ => 0) (Int32.toNatClampNeg 0) (vp_nar .byte ((p1 >>> (24 &&& 31)).toInt8.toInt32))) (Int32.toNatClampNeg 1) (vp_nar .byte ((p1 >>> (16 &&& 31)).toInt8.toInt32))) (Int32.toNatClampNeg 2) (vp_nar .byte ((p1 >>> (8 &&& 31)).toInt8.toInt32))) (Int32.toNatClampNeg 3) (vp_nar .byte ((p1 >>> (0 &&& 31)).toInt8.toInt32)))))]) [(am 0, .inr (9, mf0 am)), (am 5, .inl (cB, 600, .inl (fun _ => 0)))] sz) (va_A [(am 0, .inr (9, mf0 am)), (am 5, .inl (cB, 600, .inl (fun _ => 0)))] sz)) 0 0 (va_A [(am 0, .inr (9, mf0 am)), (am 5, .inl (cB, 600, .inl (fun _ => 0)))] sz) := by
  refine z_enter (cc := cX9_four) (maxL := 3) (ret := none) (by decide) rfl (Nat.le_of_ble_eq_true rfl) ?_
  intro p e s m below meth c A ls Q H locs hx hb hr hml hown hts hlocks hin hK hP hD hA hX hS hAe hQ hl
  have hown : s.vm.findClass RX9 = some m.cls := hown
  have hi9 : ∀ w ∈ wsX90, w ∈ wsX9_four := fun w h => List.mem_cons_of_mem _ (List.mem_append_right _ h)
  have hk0 := hts (.fieldLink RX9 23 "MonthPushModel" "tape" "[B") (by decide +kernel)
  have hk1 := hts (.fieldLink RX9 142 "MonthPushModel" "taped" "I") (by decide +kernel)
  have hl : lv_has ls 3 [(0, .ref (am 0)), (1, .int p1)] := hl
  refine lv_bipush (v := 24) hx hb dX9_four_0 (by decide) ?_
  refine lv_istore_n (lv' := [(2, .int 24), (0, .ref (am 0)), (1, .int p1)]) hx hb dX9_four_2 rfl hl (by decide) rfl (fun ls hl => ?_)
  refine lv_iload_n hx hb dX9_four_3 rfl (lv_at hl 0 rfl) ?_
  refine lv_if_lt (tgt := 36) hx hb dX9_four_4 (by decide) (fun c => absurd c (by decide)) (fun _ => ?_)
  refine lv_aload_n hx hb dX9_four_7 rfl (lv_at hl 1 rfl) ?_
  refine va_get (D := (dC, dI)) (ci := 9) (v := .ref (am 5)) (C := RX9) (T := TX9) (N := 60) hx hb hts hi9 hown hK hP 0 rfl rfl 5 (by decide) hk0 (fun _ h9 => h9) rfl dX9_four_8 ?_
  refine lv_aload_n hx hb dX9_four_11 rfl (lv_at hl 1 rfl) ?_
  refine va_get (D := (dC, dI)) (ci := 9) (v := .int 0) (C := RX9) (T := TX9) (N := 60) hx hb hts hi9 hown hK hP 0 rfl rfl 6 (by decide) hk1 (fun _ h9 => h9) rfl dX9_four_12 ?_
  refine lv_iload_n hx hb dX9_four_15 rfl (lv_at hl 2 rfl) ?_
  refine lv_iload_n hx hb dX9_four_16 rfl (lv_at hl 0 rfl) ?_
  refine lv_ishr hx hb dX9_four_17 ?_
  refine lv_i2b hx hb dX9_four_18 rfl ?_
  refine va_bast hx hb hK hP hD hS 1 0 rfl rfl (z_in (a := 0) (by decide) (by decide) (by decide)) dX9_four_19 (fun H locs hP hD hS => ?_)
  have hP : va_P (dC, dI) vwCl [(am 0, .inr (9, mf0 am)), (am 5, .inl (cB, 600, .inl (upd (fun _ => 0) (Int32.toNatClampNeg 0) (vp_nar .byte ((p1 >>> (24 &&& 31)).toInt8.toInt32)))))] H := hP
  have hD : va_D A [(am 0, .inr (9, mf0 am)), (am 5, .inl (cB, 600, .inl (upd (fun _ => 0) (Int32.toNatClampNeg 0) (vp_nar .byte ((p1 >>> (24 &&& 31)).toInt8.toInt32)))))] := hD
  refine lv_aload_n hx hb dX9_four_20 rfl (lv_at hl 1 rfl) ?_
  refine lv_dup hx hb dX9_four_21 rfl ?_
  refine va_get (D := (dC, dI)) (ci := 9) (v := .int 0) (C := RX9) (T := TX9) (N := 60) hx hb hts hi9 hown hK hP 0 rfl rfl 6 (by decide) hk1 (fun _ h9 => h9) rfl dX9_four_22 ?_
  refine lv_iconst (v := 1) hx hb dX9_four_25 (by decide) ?_
  refine lv_iadd hx hb dX9_four_26 ?_
  refine z_topi (y := 1) (by decide +kernel) ?_
  refine va_put (D := (dC, dI)) (ci := 9) (v := .int 1) (ty := .int) (C := RX9) (T := TX9) (N := 60) hx hb hts hi9 tyX9 tyX9_ok nmX9 hown hK hP hD hS 0 rfl rfl 6 (by decide) hk1 (fun _ h9 => h9) rfl (by decide +kernel) rfl rfl (Nat.le_of_ble_eq_true rfl) dX9_four_27 (fun H locs hP hD hS => ?_)
  have hP : va_P (dC, dI) vwCl [(am 0, .inr (9, ((mf0 am).set 6 (.int 1)))), (am 5, .inl (cB, 600, .inl (upd (fun _ => 0) (Int32.toNatClampNeg 0) (vp_nar .byte ((p1 >>> (24 &&& 31)).toInt8.toInt32)))))] H := hP
  have hD : va_D A [(am 0, .inr (9, ((mf0 am).set 6 (.int 1)))), (am 5, .inl (cB, 600, .inl (upd (fun _ => 0) (Int32.toNatClampNeg 0) (vp_nar .byte ((p1 >>> (24 &&& 31)).toInt8.toInt32)))))] := hD
  refine lv_iinc (v := 16) (lv' := [(2, .int 16), (0, .ref (am 0)), (1, .int p1)]) hx hb dX9_four_30 hl (k := 0) rfl (by decide) (by decide) rfl (fun ls hl => ?_)
  refine lv_goto (tgt := 3) hx hb dX9_four_33 (by decide) ?_
  refine lv_iload_n hx hb dX9_four_3 rfl (lv_at hl 0 rfl) ?_
  refine lv_if_lt (tgt := 36) hx hb dX9_four_4 (by decide) (fun c => absurd c (by decide)) (fun _ => ?_)
  refine lv_aload_n hx hb dX9_four_7 rfl (lv_at hl 1 rfl) ?_
  refine va_get (D := (dC, dI)) (ci := 9) (v := .ref (am 5)) (C := RX9) (T := TX9) (N := 60) hx hb hts hi9 hown hK hP 0 rfl rfl 5 (by decide) hk0 (fun _ h9 => h9) rfl dX9_four_8 ?_
  refine lv_aload_n hx hb dX9_four_11 rfl (lv_at hl 1 rfl) ?_
  refine va_get (D := (dC, dI)) (ci := 9) (v := .int 1) (C := RX9) (T := TX9) (N := 60) hx hb hts hi9 hown hK hP 0 rfl rfl 6 (by decide) hk1 (fun _ h9 => h9) rfl dX9_four_12 ?_
  refine lv_iload_n hx hb dX9_four_15 rfl (lv_at hl 2 rfl) ?_
  refine lv_iload_n hx hb dX9_four_16 rfl (lv_at hl 0 rfl) ?_
  refine lv_ishr hx hb dX9_four_17 ?_
  refine lv_i2b hx hb dX9_four_18 rfl ?_
  refine va_bast hx hb hK hP hD hS 1 0 rfl rfl (z_in (a := 1) (by decide) (by decide) (by decide)) dX9_four_19 (fun H locs hP hD hS => ?_)
  have hP : va_P (dC, dI) vwCl [(am 0, .inr (9, ((mf0 am).set 6 (.int 1)))), (am 5, .inl (cB, 600, .inl (upd (upd (fun _ => 0) (Int32.toNatClampNeg 0) (vp_nar .byte ((p1 >>> (24 &&& 31)).toInt8.toInt32))) (Int32.toNatClampNeg 1) (vp_nar .byte ((p1 >>> (16 &&& 31)).toInt8.toInt32)))))] H := hP
  have hD : va_D A [(am 0, .inr (9, ((mf0 am).set 6 (.int 1)))), (am 5, .inl (cB, 600, .inl (upd (upd (fun _ => 0) (Int32.toNatClampNeg 0) (vp_nar .byte ((p1 >>> (24 &&& 31)).toInt8.toInt32))) (Int32.toNatClampNeg 1) (vp_nar .byte ((p1 >>> (16 &&& 31)).toInt8.toInt32)))))] := hD
  refine lv_aload_n hx hb dX9_four_20 rfl (lv_at hl 1 rfl) ?_
  refine lv_dup hx hb dX9_four_21 rfl ?_
  refine va_get (D := (dC, dI)) (ci := 9) (v := .int 1) (C := RX9) (T := TX9) (N := 60) hx hb hts hi9 hown hK hP 0 rfl rfl 6 (by decide) hk1 (fun _ h9 => h9) rfl dX9_four_22 ?_
  refine lv_iconst (v := 1) hx hb dX9_four_25 (by decide) ?_
  refine lv_iadd hx hb dX9_four_26 ?_
  refine z_topi (y := 2) (by decide +kernel) ?_
  refine va_put (D := (dC, dI)) (ci := 9) (v := .int 2) (ty := .int) (C := RX9) (T := TX9) (N := 60) hx hb hts hi9 tyX9 tyX9_ok nmX9 hown hK hP hD hS 0 rfl rfl 6 (by decide) hk1 (fun _ h9 => h9) rfl (by decide +kernel) rfl rfl (Nat.le_of_ble_eq_true rfl) dX9_four_27 (fun H locs hP hD hS => ?_)
  have hP : va_P (dC, dI) vwCl [(am 0, .inr (9, ((mf0 am).set 6 (.int 2)))), (am 5, .inl (cB, 600, .inl (upd (upd (fun _ => 0) (Int32.toNatClampNeg 0) (vp_nar .byte ((p1 >>> (24 &&& 31)).toInt8.toInt32))) (Int32.toNatClampNeg 1) (vp_nar .byte ((p1 >>> (16 &&& 31)).toInt8.toInt32)))))] H := hP
  have hD : va_D A [(am 0, .inr (9, ((mf0 am).set 6 (.int 2)))), (am 5, .inl (cB, 600, .inl (upd (upd (fun _ => 0) (Int32.toNatClampNeg 0) (vp_nar .byte ((p1 >>> (24 &&& 31)).toInt8.toInt32))) (Int32.toNatClampNeg 1) (vp_nar .byte ((p1 >>> (16 &&& 31)).toInt8.toInt32)))))] := hD
  refine lv_iinc (v := 8) (lv' := [(2, .int 8), (0, .ref (am 0)), (1, .int p1)]) hx hb dX9_four_30 hl (k := 0) rfl (by decide) (by decide) rfl (fun ls hl => ?_)
  refine lv_goto (tgt := 3) hx hb dX9_four_33 (by decide) ?_
  refine lv_iload_n hx hb dX9_four_3 rfl (lv_at hl 0 rfl) ?_
  refine lv_if_lt (tgt := 36) hx hb dX9_four_4 (by decide) (fun c => absurd c (by decide)) (fun _ => ?_)
  refine lv_aload_n hx hb dX9_four_7 rfl (lv_at hl 1 rfl) ?_
  refine va_get (D := (dC, dI)) (ci := 9) (v := .ref (am 5)) (C := RX9) (T := TX9) (N := 60) hx hb hts hi9 hown hK hP 0 rfl rfl 5 (by decide) hk0 (fun _ h9 => h9) rfl dX9_four_8 ?_
  refine lv_aload_n hx hb dX9_four_11 rfl (lv_at hl 1 rfl) ?_
  refine va_get (D := (dC, dI)) (ci := 9) (v := .int 2) (C := RX9) (T := TX9) (N := 60) hx hb hts hi9 hown hK hP 0 rfl rfl 6 (by decide) hk1 (fun _ h9 => h9) rfl dX9_four_12 ?_
  refine lv_iload_n hx hb dX9_four_15 rfl (lv_at hl 2 rfl) ?_
  refine lv_iload_n hx hb dX9_four_16 rfl (lv_at hl 0 rfl) ?_
  refine lv_ishr hx hb dX9_four_17 ?_
  refine lv_i2b hx hb dX9_four_18 rfl ?_
  refine va_bast hx hb hK hP hD hS 1 0 rfl rfl (z_in (a := 2) (by decide) (by decide) (by decide)) dX9_four_19 (fun H locs hP hD hS => ?_)
  have hP : va_P (dC, dI) vwCl [(am 0, .inr (9, ((mf0 am).set 6 (.int 2)))), (am 5, .inl (cB, 600, .inl (upd (upd (upd (fun _ => 0) (Int32.toNatClampNeg 0) (vp_nar .byte ((p1 >>> (24 &&& 31)).toInt8.toInt32))) (Int32.toNatClampNeg 1) (vp_nar .byte ((p1 >>> (16 &&& 31)).toInt8.toInt32))) (Int32.toNatClampNeg 2) (vp_nar .byte ((p1 >>> (8 &&& 31)).toInt8.toInt32)))))] H := hP
  have hD : va_D A [(am 0, .inr (9, ((mf0 am).set 6 (.int 2)))), (am 5, .inl (cB, 600, .inl (upd (upd (upd (fun _ => 0) (Int32.toNatClampNeg 0) (vp_nar .byte ((p1 >>> (24 &&& 31)).toInt8.toInt32))) (Int32.toNatClampNeg 1) (vp_nar .byte ((p1 >>> (16 &&& 31)).toInt8.toInt32))) (Int32.toNatClampNeg 2) (vp_nar .byte ((p1 >>> (8 &&& 31)).toInt8.toInt32)))))] := hD
  refine lv_aload_n hx hb dX9_four_20 rfl (lv_at hl 1 rfl) ?_
  refine lv_dup hx hb dX9_four_21 rfl ?_
  refine va_get (D := (dC, dI)) (ci := 9) (v := .int 2) (C := RX9) (T := TX9) (N := 60) hx hb hts hi9 hown hK hP 0 rfl rfl 6 (by decide) hk1 (fun _ h9 => h9) rfl dX9_four_22 ?_
  refine lv_iconst (v := 1) hx hb dX9_four_25 (by decide) ?_
  refine lv_iadd hx hb dX9_four_26 ?_
  refine z_topi (y := 3) (by decide +kernel) ?_
  refine va_put (D := (dC, dI)) (ci := 9) (v := .int 3) (ty := .int) (C := RX9) (T := TX9) (N := 60) hx hb hts hi9 tyX9 tyX9_ok nmX9 hown hK hP hD hS 0 rfl rfl 6 (by decide) hk1 (fun _ h9 => h9) rfl (by decide +kernel) rfl rfl (Nat.le_of_ble_eq_true rfl) dX9_four_27 (fun H locs hP hD hS => ?_)
  have hP : va_P (dC, dI) vwCl [(am 0, .inr (9, ((mf0 am).set 6 (.int 3)))), (am 5, .inl (cB, 600, .inl (upd (upd (upd (fun _ => 0) (Int32.toNatClampNeg 0) (vp_nar .byte ((p1 >>> (24 &&& 31)).toInt8.toInt32))) (Int32.toNatClampNeg 1) (vp_nar .byte ((p1 >>> (16 &&& 31)).toInt8.toInt32))) (Int32.toNatClampNeg 2) (vp_nar .byte ((p1 >>> (8 &&& 31)).toInt8.toInt32)))))] H := hP
  have hD : va_D A [(am 0, .inr (9, ((mf0 am).set 6 (.int 3)))), (am 5, .inl (cB, 600, .inl (upd (upd (upd (fun _ => 0) (Int32.toNatClampNeg 0) (vp_nar .byte ((p1 >>> (24 &&& 31)).toInt8.toInt32))) (Int32.toNatClampNeg 1) (vp_nar .byte ((p1 >>> (16 &&& 31)).toInt8.toInt32))) (Int32.toNatClampNeg 2) (vp_nar .byte ((p1 >>> (8 &&& 31)).toInt8.toInt32)))))] := hD
  refine lv_iinc (v := 0) (lv' := [(2, .int 0), (0, .ref (am 0)), (1, .int p1)]) hx hb dX9_four_30 hl (k := 0) rfl (by decide) (by decide) rfl (fun ls hl => ?_)
  refine lv_goto (tgt := 3) hx hb dX9_four_33 (by decide) ?_
  refine lv_iload_n hx hb dX9_four_3 rfl (lv_at hl 0 rfl) ?_
  refine lv_if_lt (tgt := 36) hx hb dX9_four_4 (by decide) (fun c => absurd c (by decide)) (fun _ => ?_)
  refine lv_aload_n hx hb dX9_four_7 rfl (lv_at hl 1 rfl) ?_
  refine va_get (D := (dC, dI)) (ci := 9) (v := .ref (am 5)) (C := RX9) (T := TX9) (N := 60) hx hb hts hi9 hown hK hP 0 rfl rfl 5 (by decide) hk0 (fun _ h9 => h9) rfl dX9_four_8 ?_
  refine lv_aload_n hx hb dX9_four_11 rfl (lv_at hl 1 rfl) ?_
  refine va_get (D := (dC, dI)) (ci := 9) (v := .int 3) (C := RX9) (T := TX9) (N := 60) hx hb hts hi9 hown hK hP 0 rfl rfl 6 (by decide) hk1 (fun _ h9 => h9) rfl dX9_four_12 ?_
  refine lv_iload_n hx hb dX9_four_15 rfl (lv_at hl 2 rfl) ?_
  refine lv_iload_n hx hb dX9_four_16 rfl (lv_at hl 0 rfl) ?_
  refine lv_ishr hx hb dX9_four_17 ?_
  refine lv_i2b hx hb dX9_four_18 rfl ?_
  refine va_bast hx hb hK hP hD hS 1 0 rfl rfl (z_in (a := 3) (by decide) (by decide) (by decide)) dX9_four_19 (fun H locs hP hD hS => ?_)
  have hP : va_P (dC, dI) vwCl [(am 0, .inr (9, ((mf0 am).set 6 (.int 3)))), (am 5, .inl (cB, 600, .inl (upd (upd (upd (upd (fun _ => 0) (Int32.toNatClampNeg 0) (vp_nar .byte ((p1 >>> (24 &&& 31)).toInt8.toInt32))) (Int32.toNatClampNeg 1) (vp_nar .byte ((p1 >>> (16 &&& 31)).toInt8.toInt32))) (Int32.toNatClampNeg 2) (vp_nar .byte ((p1 >>> (8 &&& 31)).toInt8.toInt32))) (Int32.toNatClampNeg 3) (vp_nar .byte ((p1 >>> (0 &&& 31)).toInt8.toInt32)))))] H := hP
  have hD : va_D A [(am 0, .inr (9, ((mf0 am).set 6 (.int 3)))), (am 5, .inl (cB, 600, .inl (upd (upd (upd (upd (fun _ => 0) (Int32.toNatClampNeg 0) (vp_nar .byte ((p1 >>> (24 &&& 31)).toInt8.toInt32))) (Int32.toNatClampNeg 1) (vp_nar .byte ((p1 >>> (16 &&& 31)).toInt8.toInt32))) (Int32.toNatClampNeg 2) (vp_nar .byte ((p1 >>> (8 &&& 31)).toInt8.toInt32))) (Int32.toNatClampNeg 3) (vp_nar .byte ((p1 >>> (0 &&& 31)).toInt8.toInt32)))))] := hD
  refine lv_aload_n hx hb dX9_four_20 rfl (lv_at hl 1 rfl) ?_
  refine lv_dup hx hb dX9_four_21 rfl ?_
  refine va_get (D := (dC, dI)) (ci := 9) (v := .int 3) (C := RX9) (T := TX9) (N := 60) hx hb hts hi9 hown hK hP 0 rfl rfl 6 (by decide) hk1 (fun _ h9 => h9) rfl dX9_four_22 ?_
  refine lv_iconst (v := 1) hx hb dX9_four_25 (by decide) ?_
  refine lv_iadd hx hb dX9_four_26 ?_
  refine z_topi (y := 4) (by decide +kernel) ?_
  refine va_put (D := (dC, dI)) (ci := 9) (v := .int 4) (ty := .int) (C := RX9) (T := TX9) (N := 60) hx hb hts hi9 tyX9 tyX9_ok nmX9 hown hK hP hD hS 0 rfl rfl 6 (by decide) hk1 (fun _ h9 => h9) rfl (by decide +kernel) rfl rfl (Nat.le_of_ble_eq_true rfl) dX9_four_27 (fun H locs hP hD hS => ?_)
  have hP : va_P (dC, dI) vwCl [(am 0, .inr (9, ((mf0 am).set 6 (.int 4)))), (am 5, .inl (cB, 600, .inl (upd (upd (upd (upd (fun _ => 0) (Int32.toNatClampNeg 0) (vp_nar .byte ((p1 >>> (24 &&& 31)).toInt8.toInt32))) (Int32.toNatClampNeg 1) (vp_nar .byte ((p1 >>> (16 &&& 31)).toInt8.toInt32))) (Int32.toNatClampNeg 2) (vp_nar .byte ((p1 >>> (8 &&& 31)).toInt8.toInt32))) (Int32.toNatClampNeg 3) (vp_nar .byte ((p1 >>> (0 &&& 31)).toInt8.toInt32)))))] H := hP
  have hD : va_D A [(am 0, .inr (9, ((mf0 am).set 6 (.int 4)))), (am 5, .inl (cB, 600, .inl (upd (upd (upd (upd (fun _ => 0) (Int32.toNatClampNeg 0) (vp_nar .byte ((p1 >>> (24 &&& 31)).toInt8.toInt32))) (Int32.toNatClampNeg 1) (vp_nar .byte ((p1 >>> (16 &&& 31)).toInt8.toInt32))) (Int32.toNatClampNeg 2) (vp_nar .byte ((p1 >>> (8 &&& 31)).toInt8.toInt32))) (Int32.toNatClampNeg 3) (vp_nar .byte ((p1 >>> (0 &&& 31)).toInt8.toInt32)))))] := hD
  refine lv_iinc (v := (-8)) (lv' := [(2, .int (-8)), (0, .ref (am 0)), (1, .int p1)]) hx hb dX9_four_30 hl (k := 0) rfl (by decide) (by decide) rfl (fun ls hl => ?_)
  refine lv_goto (tgt := 3) hx hb dX9_four_33 (by decide) ?_
  refine lv_iload_n hx hb dX9_four_3 rfl (lv_at hl 0 rfl) ?_
  refine lv_if_lt (tgt := 36) hx hb dX9_four_4 (by decide) (fun _ => ?_) (fun c => absurd (by decide) c)
  exact z_vret () hx hb hr hlocks hK hP hD hS hAe hQ rfl trivial dX9_four_36
set_option maxHeartbeats 4000000 in
set_option maxRecDepth 100000 in
theorem c_X9_four_147 (l : Launch) (dC : Nat → ClassId) (dI : Nat → Nat → Nat) (cB cI cJ cZ cP cQ : ClassId) (am : Nat → Nat) (sz : Nat) (p1 : Int32) (g0 : Nat → Int32) : Met l yX9_four wsX9_four ({ frames := 0, cells := 0, slots := 0, locals := 0 } : Room) (zPc [.ref (am 0), .int p1] (dC, dI) (zT cB cI cJ cZ cP cQ) [(am 0, .inr (9, ((mf0 am).set 6 (.int 4)))), (am 5, .inl (cB, 600, .inl g0))] sz [] []) (va_Qv (fun _ => True) (zB (dC, dI) (zT cB cI cJ cZ cP cQ) (fun _ : Unit => [(am 0, .inr (9, ((mf0 am).set 6 (.int 8)))), (am 5, .inl (cB, 600, .inl (upd (upd (upd (upd g0 (Int32.toNatClampNeg 4) (vp_nar .byte ((p1 >>> (24 &&& 31)).toInt8.toInt32))) (Int32.toNatClampNeg 5) (vp_nar .byte ((p1 >>> (16 &&& 31)).toInt8.toInt32))) (Int32.toNatClampNeg 6) (vp_nar .byte ((p1 >>> (8 &&& 31)).toInt8.toInt32))) (Int32.toNatClampNeg 7) (vp_nar .byte ((p1 >>> (0 &&& 31)).toInt8.toInt32)))))]) [(am 0, .inr (9, ((mf0 am).set 6 (.int 4)))), (am 5, .inl (cB, 600, .inl g0))] sz) (va_A [(am 0, .inr (9, ((mf0 am).set 6 (.int 4)))), (am 5, .inl (cB, 600, .inl g0))] sz)) 0 0 (va_A [(am 0, .inr (9, ((mf0 am).set 6 (.int 4)))), (am 5, .inl (cB, 600, .inl g0))] sz) := by
  refine z_enter (cc := cX9_four) (maxL := 3) (ret := none) (by decide) rfl (Nat.le_of_ble_eq_true rfl) ?_
  intro p e s m below meth c A ls Q H locs hx hb hr hml hown hts hlocks hin hK hP hD hA hX hS hAe hQ hl
  have hown : s.vm.findClass RX9 = some m.cls := hown
  have hi9 : ∀ w ∈ wsX90, w ∈ wsX9_four := fun w h => List.mem_cons_of_mem _ (List.mem_append_right _ h)
  have hk0 := hts (.fieldLink RX9 23 "MonthPushModel" "tape" "[B") (by decide +kernel)
  have hk1 := hts (.fieldLink RX9 142 "MonthPushModel" "taped" "I") (by decide +kernel)
  have hl : lv_has ls 3 [(0, .ref (am 0)), (1, .int p1)] := hl
  refine lv_bipush (v := 24) hx hb dX9_four_0 (by decide) ?_
  refine lv_istore_n (lv' := [(2, .int 24), (0, .ref (am 0)), (1, .int p1)]) hx hb dX9_four_2 rfl hl (by decide) rfl (fun ls hl => ?_)
  refine lv_iload_n hx hb dX9_four_3 rfl (lv_at hl 0 rfl) ?_
  refine lv_if_lt (tgt := 36) hx hb dX9_four_4 (by decide) (fun c => absurd c (by decide)) (fun _ => ?_)
  refine lv_aload_n hx hb dX9_four_7 rfl (lv_at hl 1 rfl) ?_
  refine va_get (D := (dC, dI)) (ci := 9) (v := .ref (am 5)) (C := RX9) (T := TX9) (N := 60) hx hb hts hi9 hown hK hP 0 rfl rfl 5 (by decide) hk0 (fun _ h9 => h9) rfl dX9_four_8 ?_
  refine lv_aload_n hx hb dX9_four_11 rfl (lv_at hl 1 rfl) ?_
  refine va_get (D := (dC, dI)) (ci := 9) (v := .int 4) (C := RX9) (T := TX9) (N := 60) hx hb hts hi9 hown hK hP 0 rfl rfl 6 (by decide) hk1 (fun _ h9 => h9) rfl dX9_four_12 ?_
  refine lv_iload_n hx hb dX9_four_15 rfl (lv_at hl 2 rfl) ?_
  refine lv_iload_n hx hb dX9_four_16 rfl (lv_at hl 0 rfl) ?_
  refine lv_ishr hx hb dX9_four_17 ?_
  refine lv_i2b hx hb dX9_four_18 rfl ?_
  refine va_bast hx hb hK hP hD hS 1 0 rfl rfl (z_in (a := 4) (by decide) (by decide) (by decide)) dX9_four_19 (fun H locs hP hD hS => ?_)
  have hP : va_P (dC, dI) vwCl [(am 0, .inr (9, ((mf0 am).set 6 (.int 4)))), (am 5, .inl (cB, 600, .inl (upd g0 (Int32.toNatClampNeg 4) (vp_nar .byte ((p1 >>> (24 &&& 31)).toInt8.toInt32)))))] H := hP
  have hD : va_D A [(am 0, .inr (9, ((mf0 am).set 6 (.int 4)))), (am 5, .inl (cB, 600, .inl (upd g0 (Int32.toNatClampNeg 4) (vp_nar .byte ((p1 >>> (24 &&& 31)).toInt8.toInt32)))))] := hD
  refine lv_aload_n hx hb dX9_four_20 rfl (lv_at hl 1 rfl) ?_
  refine lv_dup hx hb dX9_four_21 rfl ?_
  refine va_get (D := (dC, dI)) (ci := 9) (v := .int 4) (C := RX9) (T := TX9) (N := 60) hx hb hts hi9 hown hK hP 0 rfl rfl 6 (by decide) hk1 (fun _ h9 => h9) rfl dX9_four_22 ?_
  refine lv_iconst (v := 1) hx hb dX9_four_25 (by decide) ?_
  refine lv_iadd hx hb dX9_four_26 ?_
  refine z_topi (y := 5) (by decide +kernel) ?_
  refine va_put (D := (dC, dI)) (ci := 9) (v := .int 5) (ty := .int) (C := RX9) (T := TX9) (N := 60) hx hb hts hi9 tyX9 tyX9_ok nmX9 hown hK hP hD hS 0 rfl rfl 6 (by decide) hk1 (fun _ h9 => h9) rfl (by decide +kernel) rfl rfl (Nat.le_of_ble_eq_true rfl) dX9_four_27 (fun H locs hP hD hS => ?_)
  have hP : va_P (dC, dI) vwCl [(am 0, .inr (9, ((mf0 am).set 6 (.int 5)))), (am 5, .inl (cB, 600, .inl (upd g0 (Int32.toNatClampNeg 4) (vp_nar .byte ((p1 >>> (24 &&& 31)).toInt8.toInt32)))))] H := hP
  have hD : va_D A [(am 0, .inr (9, ((mf0 am).set 6 (.int 5)))), (am 5, .inl (cB, 600, .inl (upd g0 (Int32.toNatClampNeg 4) (vp_nar .byte ((p1 >>> (24 &&& 31)).toInt8.toInt32)))))] := hD
  refine lv_iinc (v := 16) (lv' := [(2, .int 16), (0, .ref (am 0)), (1, .int p1)]) hx hb dX9_four_30 hl (k := 0) rfl (by decide) (by decide) rfl (fun ls hl => ?_)
  refine lv_goto (tgt := 3) hx hb dX9_four_33 (by decide) ?_
  refine lv_iload_n hx hb dX9_four_3 rfl (lv_at hl 0 rfl) ?_
  refine lv_if_lt (tgt := 36) hx hb dX9_four_4 (by decide) (fun c => absurd c (by decide)) (fun _ => ?_)
  refine lv_aload_n hx hb dX9_four_7 rfl (lv_at hl 1 rfl) ?_
  refine va_get (D := (dC, dI)) (ci := 9) (v := .ref (am 5)) (C := RX9) (T := TX9) (N := 60) hx hb hts hi9 hown hK hP 0 rfl rfl 5 (by decide) hk0 (fun _ h9 => h9) rfl dX9_four_8 ?_
  refine lv_aload_n hx hb dX9_four_11 rfl (lv_at hl 1 rfl) ?_
  refine va_get (D := (dC, dI)) (ci := 9) (v := .int 5) (C := RX9) (T := TX9) (N := 60) hx hb hts hi9 hown hK hP 0 rfl rfl 6 (by decide) hk1 (fun _ h9 => h9) rfl dX9_four_12 ?_
  refine lv_iload_n hx hb dX9_four_15 rfl (lv_at hl 2 rfl) ?_
  refine lv_iload_n hx hb dX9_four_16 rfl (lv_at hl 0 rfl) ?_
  refine lv_ishr hx hb dX9_four_17 ?_
  refine lv_i2b hx hb dX9_four_18 rfl ?_
  refine va_bast hx hb hK hP hD hS 1 0 rfl rfl (z_in (a := 5) (by decide) (by decide) (by decide)) dX9_four_19 (fun H locs hP hD hS => ?_)
  have hP : va_P (dC, dI) vwCl [(am 0, .inr (9, ((mf0 am).set 6 (.int 5)))), (am 5, .inl (cB, 600, .inl (upd (upd g0 (Int32.toNatClampNeg 4) (vp_nar .byte ((p1 >>> (24 &&& 31)).toInt8.toInt32))) (Int32.toNatClampNeg 5) (vp_nar .byte ((p1 >>> (16 &&& 31)).toInt8.toInt32)))))] H := hP
  have hD : va_D A [(am 0, .inr (9, ((mf0 am).set 6 (.int 5)))), (am 5, .inl (cB, 600, .inl (upd (upd g0 (Int32.toNatClampNeg 4) (vp_nar .byte ((p1 >>> (24 &&& 31)).toInt8.toInt32))) (Int32.toNatClampNeg 5) (vp_nar .byte ((p1 >>> (16 &&& 31)).toInt8.toInt32)))))] := hD
  refine lv_aload_n hx hb dX9_four_20 rfl (lv_at hl 1 rfl) ?_
  refine lv_dup hx hb dX9_four_21 rfl ?_
  refine va_get (D := (dC, dI)) (ci := 9) (v := .int 5) (C := RX9) (T := TX9) (N := 60) hx hb hts hi9 hown hK hP 0 rfl rfl 6 (by decide) hk1 (fun _ h9 => h9) rfl dX9_four_22 ?_
  refine lv_iconst (v := 1) hx hb dX9_four_25 (by decide) ?_
  refine lv_iadd hx hb dX9_four_26 ?_
  refine z_topi (y := 6) (by decide +kernel) ?_
  refine va_put (D := (dC, dI)) (ci := 9) (v := .int 6) (ty := .int) (C := RX9) (T := TX9) (N := 60) hx hb hts hi9 tyX9 tyX9_ok nmX9 hown hK hP hD hS 0 rfl rfl 6 (by decide) hk1 (fun _ h9 => h9) rfl (by decide +kernel) rfl rfl (Nat.le_of_ble_eq_true rfl) dX9_four_27 (fun H locs hP hD hS => ?_)
  have hP : va_P (dC, dI) vwCl [(am 0, .inr (9, ((mf0 am).set 6 (.int 6)))), (am 5, .inl (cB, 600, .inl (upd (upd g0 (Int32.toNatClampNeg 4) (vp_nar .byte ((p1 >>> (24 &&& 31)).toInt8.toInt32))) (Int32.toNatClampNeg 5) (vp_nar .byte ((p1 >>> (16 &&& 31)).toInt8.toInt32)))))] H := hP
  have hD : va_D A [(am 0, .inr (9, ((mf0 am).set 6 (.int 6)))), (am 5, .inl (cB, 600, .inl (upd (upd g0 (Int32.toNatClampNeg 4) (vp_nar .byte ((p1 >>> (24 &&& 31)).toInt8.toInt32))) (Int32.toNatClampNeg 5) (vp_nar .byte ((p1 >>> (16 &&& 31)).toInt8.toInt32)))))] := hD
  refine lv_iinc (v := 8) (lv' := [(2, .int 8), (0, .ref (am 0)), (1, .int p1)]) hx hb dX9_four_30 hl (k := 0) rfl (by decide) (by decide) rfl (fun ls hl => ?_)
  refine lv_goto (tgt := 3) hx hb dX9_four_33 (by decide) ?_
  refine lv_iload_n hx hb dX9_four_3 rfl (lv_at hl 0 rfl) ?_
  refine lv_if_lt (tgt := 36) hx hb dX9_four_4 (by decide) (fun c => absurd c (by decide)) (fun _ => ?_)
  refine lv_aload_n hx hb dX9_four_7 rfl (lv_at hl 1 rfl) ?_
  refine va_get (D := (dC, dI)) (ci := 9) (v := .ref (am 5)) (C := RX9) (T := TX9) (N := 60) hx hb hts hi9 hown hK hP 0 rfl rfl 5 (by decide) hk0 (fun _ h9 => h9) rfl dX9_four_8 ?_
  refine lv_aload_n hx hb dX9_four_11 rfl (lv_at hl 1 rfl) ?_
  refine va_get (D := (dC, dI)) (ci := 9) (v := .int 6) (C := RX9) (T := TX9) (N := 60) hx hb hts hi9 hown hK hP 0 rfl rfl 6 (by decide) hk1 (fun _ h9 => h9) rfl dX9_four_12 ?_
  refine lv_iload_n hx hb dX9_four_15 rfl (lv_at hl 2 rfl) ?_
  refine lv_iload_n hx hb dX9_four_16 rfl (lv_at hl 0 rfl) ?_
  refine lv_ishr hx hb dX9_four_17 ?_
  refine lv_i2b hx hb dX9_four_18 rfl ?_
  refine va_bast hx hb hK hP hD hS 1 0 rfl rfl (z_in (a := 6) (by decide) (by decide) (by decide)) dX9_four_19 (fun H locs hP hD hS => ?_)
  have hP : va_P (dC, dI) vwCl [(am 0, .inr (9, ((mf0 am).set 6 (.int 6)))), (am 5, .inl (cB, 600, .inl (upd (upd (upd g0 (Int32.toNatClampNeg 4) (vp_nar .byte ((p1 >>> (24 &&& 31)).toInt8.toInt32))) (Int32.toNatClampNeg 5) (vp_nar .byte ((p1 >>> (16 &&& 31)).toInt8.toInt32))) (Int32.toNatClampNeg 6) (vp_nar .byte ((p1 >>> (8 &&& 31)).toInt8.toInt32)))))] H := hP
  have hD : va_D A [(am 0, .inr (9, ((mf0 am).set 6 (.int 6)))), (am 5, .inl (cB, 600, .inl (upd (upd (upd g0 (Int32.toNatClampNeg 4) (vp_nar .byte ((p1 >>> (24 &&& 31)).toInt8.toInt32))) (Int32.toNatClampNeg 5) (vp_nar .byte ((p1 >>> (16 &&& 31)).toInt8.toInt32))) (Int32.toNatClampNeg 6) (vp_nar .byte ((p1 >>> (8 &&& 31)).toInt8.toInt32)))))] := hD
  refine lv_aload_n hx hb dX9_four_20 rfl (lv_at hl 1 rfl) ?_
  refine lv_dup hx hb dX9_four_21 rfl ?_
  refine va_get (D := (dC, dI)) (ci := 9) (v := .int 6) (C := RX9) (T := TX9) (N := 60) hx hb hts hi9 hown hK hP 0 rfl rfl 6 (by decide) hk1 (fun _ h9 => h9) rfl dX9_four_22 ?_
  refine lv_iconst (v := 1) hx hb dX9_four_25 (by decide) ?_
  refine lv_iadd hx hb dX9_four_26 ?_
  refine z_topi (y := 7) (by decide +kernel) ?_
  refine va_put (D := (dC, dI)) (ci := 9) (v := .int 7) (ty := .int) (C := RX9) (T := TX9) (N := 60) hx hb hts hi9 tyX9 tyX9_ok nmX9 hown hK hP hD hS 0 rfl rfl 6 (by decide) hk1 (fun _ h9 => h9) rfl (by decide +kernel) rfl rfl (Nat.le_of_ble_eq_true rfl) dX9_four_27 (fun H locs hP hD hS => ?_)
  have hP : va_P (dC, dI) vwCl [(am 0, .inr (9, ((mf0 am).set 6 (.int 7)))), (am 5, .inl (cB, 600, .inl (upd (upd (upd g0 (Int32.toNatClampNeg 4) (vp_nar .byte ((p1 >>> (24 &&& 31)).toInt8.toInt32))) (Int32.toNatClampNeg 5) (vp_nar .byte ((p1 >>> (16 &&& 31)).toInt8.toInt32))) (Int32.toNatClampNeg 6) (vp_nar .byte ((p1 >>> (8 &&& 31)).toInt8.toInt32)))))] H := hP
  have hD : va_D A [(am 0, .inr (9, ((mf0 am).set 6 (.int 7)))), (am 5, .inl (cB, 600, .inl (upd (upd (upd g0 (Int32.toNatClampNeg 4) (vp_nar .byte ((p1 >>> (24 &&& 31)).toInt8.toInt32))) (Int32.toNatClampNeg 5) (vp_nar .byte ((p1 >>> (16 &&& 31)).toInt8.toInt32))) (Int32.toNatClampNeg 6) (vp_nar .byte ((p1 >>> (8 &&& 31)).toInt8.toInt32)))))] := hD
  refine lv_iinc (v := 0) (lv' := [(2, .int 0), (0, .ref (am 0)), (1, .int p1)]) hx hb dX9_four_30 hl (k := 0) rfl (by decide) (by decide) rfl (fun ls hl => ?_)
  refine lv_goto (tgt := 3) hx hb dX9_four_33 (by decide) ?_
  refine lv_iload_n hx hb dX9_four_3 rfl (lv_at hl 0 rfl) ?_
  refine lv_if_lt (tgt := 36) hx hb dX9_four_4 (by decide) (fun c => absurd c (by decide)) (fun _ => ?_)
  refine lv_aload_n hx hb dX9_four_7 rfl (lv_at hl 1 rfl) ?_
  refine va_get (D := (dC, dI)) (ci := 9) (v := .ref (am 5)) (C := RX9) (T := TX9) (N := 60) hx hb hts hi9 hown hK hP 0 rfl rfl 5 (by decide) hk0 (fun _ h9 => h9) rfl dX9_four_8 ?_
  refine lv_aload_n hx hb dX9_four_11 rfl (lv_at hl 1 rfl) ?_
  refine va_get (D := (dC, dI)) (ci := 9) (v := .int 7) (C := RX9) (T := TX9) (N := 60) hx hb hts hi9 hown hK hP 0 rfl rfl 6 (by decide) hk1 (fun _ h9 => h9) rfl dX9_four_12 ?_
  refine lv_iload_n hx hb dX9_four_15 rfl (lv_at hl 2 rfl) ?_
  refine lv_iload_n hx hb dX9_four_16 rfl (lv_at hl 0 rfl) ?_
  refine lv_ishr hx hb dX9_four_17 ?_
  refine lv_i2b hx hb dX9_four_18 rfl ?_
  refine va_bast hx hb hK hP hD hS 1 0 rfl rfl (z_in (a := 7) (by decide) (by decide) (by decide)) dX9_four_19 (fun H locs hP hD hS => ?_)
  have hP : va_P (dC, dI) vwCl [(am 0, .inr (9, ((mf0 am).set 6 (.int 7)))), (am 5, .inl (cB, 600, .inl (upd (upd (upd (upd g0 (Int32.toNatClampNeg 4) (vp_nar .byte ((p1 >>> (24 &&& 31)).toInt8.toInt32))) (Int32.toNatClampNeg 5) (vp_nar .byte ((p1 >>> (16 &&& 31)).toInt8.toInt32))) (Int32.toNatClampNeg 6) (vp_nar .byte ((p1 >>> (8 &&& 31)).toInt8.toInt32))) (Int32.toNatClampNeg 7) (vp_nar .byte ((p1 >>> (0 &&& 31)).toInt8.toInt32)))))] H := hP
  have hD : va_D A [(am 0, .inr (9, ((mf0 am).set 6 (.int 7)))), (am 5, .inl (cB, 600, .inl (upd (upd (upd (upd g0 (Int32.toNatClampNeg 4) (vp_nar .byte ((p1 >>> (24 &&& 31)).toInt8.toInt32))) (Int32.toNatClampNeg 5) (vp_nar .byte ((p1 >>> (16 &&& 31)).toInt8.toInt32))) (Int32.toNatClampNeg 6) (vp_nar .byte ((p1 >>> (8 &&& 31)).toInt8.toInt32))) (Int32.toNatClampNeg 7) (vp_nar .byte ((p1 >>> (0 &&& 31)).toInt8.toInt32)))))] := hD
  refine lv_aload_n hx hb dX9_four_20 rfl (lv_at hl 1 rfl) ?_
  refine lv_dup hx hb dX9_four_21 rfl ?_
  refine va_get (D := (dC, dI)) (ci := 9) (v := .int 7) (C := RX9) (T := TX9) (N := 60) hx hb hts hi9 hown hK hP 0 rfl rfl 6 (by decide) hk1 (fun _ h9 => h9) rfl dX9_four_22 ?_
  refine lv_iconst (v := 1) hx hb dX9_four_25 (by decide) ?_
  refine lv_iadd hx hb dX9_four_26 ?_
  refine z_topi (y := 8) (by decide +kernel) ?_
  refine va_put (D := (dC, dI)) (ci := 9) (v := .int 8) (ty := .int) (C := RX9) (T := TX9) (N := 60) hx hb hts hi9 tyX9 tyX9_ok nmX9 hown hK hP hD hS 0 rfl rfl 6 (by decide) hk1 (fun _ h9 => h9) rfl (by decide +kernel) rfl rfl (Nat.le_of_ble_eq_true rfl) dX9_four_27 (fun H locs hP hD hS => ?_)
  have hP : va_P (dC, dI) vwCl [(am 0, .inr (9, ((mf0 am).set 6 (.int 8)))), (am 5, .inl (cB, 600, .inl (upd (upd (upd (upd g0 (Int32.toNatClampNeg 4) (vp_nar .byte ((p1 >>> (24 &&& 31)).toInt8.toInt32))) (Int32.toNatClampNeg 5) (vp_nar .byte ((p1 >>> (16 &&& 31)).toInt8.toInt32))) (Int32.toNatClampNeg 6) (vp_nar .byte ((p1 >>> (8 &&& 31)).toInt8.toInt32))) (Int32.toNatClampNeg 7) (vp_nar .byte ((p1 >>> (0 &&& 31)).toInt8.toInt32)))))] H := hP
  have hD : va_D A [(am 0, .inr (9, ((mf0 am).set 6 (.int 8)))), (am 5, .inl (cB, 600, .inl (upd (upd (upd (upd g0 (Int32.toNatClampNeg 4) (vp_nar .byte ((p1 >>> (24 &&& 31)).toInt8.toInt32))) (Int32.toNatClampNeg 5) (vp_nar .byte ((p1 >>> (16 &&& 31)).toInt8.toInt32))) (Int32.toNatClampNeg 6) (vp_nar .byte ((p1 >>> (8 &&& 31)).toInt8.toInt32))) (Int32.toNatClampNeg 7) (vp_nar .byte ((p1 >>> (0 &&& 31)).toInt8.toInt32)))))] := hD
  refine lv_iinc (v := (-8)) (lv' := [(2, .int (-8)), (0, .ref (am 0)), (1, .int p1)]) hx hb dX9_four_30 hl (k := 0) rfl (by decide) (by decide) rfl (fun ls hl => ?_)
  refine lv_goto (tgt := 3) hx hb dX9_four_33 (by decide) ?_
  refine lv_iload_n hx hb dX9_four_3 rfl (lv_at hl 0 rfl) ?_
  refine lv_if_lt (tgt := 36) hx hb dX9_four_4 (by decide) (fun _ => ?_) (fun c => absurd (by decide) c)
  exact z_vret () hx hb hr hlocks hK hP hD hS hAe hQ rfl trivial dX9_four_36
set_option maxHeartbeats 4000000 in
set_option maxRecDepth 100000 in
theorem c_X9_four_148 (l : Launch) (dC : Nat → ClassId) (dI : Nat → Nat → Nat) (cB cI cJ cZ cP cQ : ClassId) (am : Nat → Nat) (sz : Nat) (p1 : Int32) (g0 : Nat → Int32) : Met l yX9_four wsX9_four ({ frames := 0, cells := 0, slots := 0, locals := 0 } : Room) (zPc [.ref (am 0), .int p1] (dC, dI) (zT cB cI cJ cZ cP cQ) [(am 0, .inr (9, ((mf0 am).set 6 (.int 8)))), (am 5, .inl (cB, 600, .inl g0))] sz [] []) (va_Qv (fun _ => True) (zB (dC, dI) (zT cB cI cJ cZ cP cQ) (fun _ : Unit => [(am 0, .inr (9, ((mf0 am).set 6 (.int 12)))), (am 5, .inl (cB, 600, .inl (upd (upd (upd (upd g0 (Int32.toNatClampNeg 8) (vp_nar .byte ((p1 >>> (24 &&& 31)).toInt8.toInt32))) (Int32.toNatClampNeg 9) (vp_nar .byte ((p1 >>> (16 &&& 31)).toInt8.toInt32))) (Int32.toNatClampNeg 10) (vp_nar .byte ((p1 >>> (8 &&& 31)).toInt8.toInt32))) (Int32.toNatClampNeg 11) (vp_nar .byte ((p1 >>> (0 &&& 31)).toInt8.toInt32)))))]) [(am 0, .inr (9, ((mf0 am).set 6 (.int 8)))), (am 5, .inl (cB, 600, .inl g0))] sz) (va_A [(am 0, .inr (9, ((mf0 am).set 6 (.int 8)))), (am 5, .inl (cB, 600, .inl g0))] sz)) 0 0 (va_A [(am 0, .inr (9, ((mf0 am).set 6 (.int 8)))), (am 5, .inl (cB, 600, .inl g0))] sz) := by
  refine z_enter (cc := cX9_four) (maxL := 3) (ret := none) (by decide) rfl (Nat.le_of_ble_eq_true rfl) ?_
  intro p e s m below meth c A ls Q H locs hx hb hr hml hown hts hlocks hin hK hP hD hA hX hS hAe hQ hl
  have hown : s.vm.findClass RX9 = some m.cls := hown
  have hi9 : ∀ w ∈ wsX90, w ∈ wsX9_four := fun w h => List.mem_cons_of_mem _ (List.mem_append_right _ h)
  have hk0 := hts (.fieldLink RX9 23 "MonthPushModel" "tape" "[B") (by decide +kernel)
  have hk1 := hts (.fieldLink RX9 142 "MonthPushModel" "taped" "I") (by decide +kernel)
  have hl : lv_has ls 3 [(0, .ref (am 0)), (1, .int p1)] := hl
  refine lv_bipush (v := 24) hx hb dX9_four_0 (by decide) ?_
  refine lv_istore_n (lv' := [(2, .int 24), (0, .ref (am 0)), (1, .int p1)]) hx hb dX9_four_2 rfl hl (by decide) rfl (fun ls hl => ?_)
  refine lv_iload_n hx hb dX9_four_3 rfl (lv_at hl 0 rfl) ?_
  refine lv_if_lt (tgt := 36) hx hb dX9_four_4 (by decide) (fun c => absurd c (by decide)) (fun _ => ?_)
  refine lv_aload_n hx hb dX9_four_7 rfl (lv_at hl 1 rfl) ?_
  refine va_get (D := (dC, dI)) (ci := 9) (v := .ref (am 5)) (C := RX9) (T := TX9) (N := 60) hx hb hts hi9 hown hK hP 0 rfl rfl 5 (by decide) hk0 (fun _ h9 => h9) rfl dX9_four_8 ?_
  refine lv_aload_n hx hb dX9_four_11 rfl (lv_at hl 1 rfl) ?_
  refine va_get (D := (dC, dI)) (ci := 9) (v := .int 8) (C := RX9) (T := TX9) (N := 60) hx hb hts hi9 hown hK hP 0 rfl rfl 6 (by decide) hk1 (fun _ h9 => h9) rfl dX9_four_12 ?_
  refine lv_iload_n hx hb dX9_four_15 rfl (lv_at hl 2 rfl) ?_
  refine lv_iload_n hx hb dX9_four_16 rfl (lv_at hl 0 rfl) ?_
  refine lv_ishr hx hb dX9_four_17 ?_
  refine lv_i2b hx hb dX9_four_18 rfl ?_
  refine va_bast hx hb hK hP hD hS 1 0 rfl rfl (z_in (a := 8) (by decide) (by decide) (by decide)) dX9_four_19 (fun H locs hP hD hS => ?_)
  have hP : va_P (dC, dI) vwCl [(am 0, .inr (9, ((mf0 am).set 6 (.int 8)))), (am 5, .inl (cB, 600, .inl (upd g0 (Int32.toNatClampNeg 8) (vp_nar .byte ((p1 >>> (24 &&& 31)).toInt8.toInt32)))))] H := hP
  have hD : va_D A [(am 0, .inr (9, ((mf0 am).set 6 (.int 8)))), (am 5, .inl (cB, 600, .inl (upd g0 (Int32.toNatClampNeg 8) (vp_nar .byte ((p1 >>> (24 &&& 31)).toInt8.toInt32)))))] := hD
  refine lv_aload_n hx hb dX9_four_20 rfl (lv_at hl 1 rfl) ?_
  refine lv_dup hx hb dX9_four_21 rfl ?_
  refine va_get (D := (dC, dI)) (ci := 9) (v := .int 8) (C := RX9) (T := TX9) (N := 60) hx hb hts hi9 hown hK hP 0 rfl rfl 6 (by decide) hk1 (fun _ h9 => h9) rfl dX9_four_22 ?_
  refine lv_iconst (v := 1) hx hb dX9_four_25 (by decide) ?_
  refine lv_iadd hx hb dX9_four_26 ?_
  refine z_topi (y := 9) (by decide +kernel) ?_
  refine va_put (D := (dC, dI)) (ci := 9) (v := .int 9) (ty := .int) (C := RX9) (T := TX9) (N := 60) hx hb hts hi9 tyX9 tyX9_ok nmX9 hown hK hP hD hS 0 rfl rfl 6 (by decide) hk1 (fun _ h9 => h9) rfl (by decide +kernel) rfl rfl (Nat.le_of_ble_eq_true rfl) dX9_four_27 (fun H locs hP hD hS => ?_)
  have hP : va_P (dC, dI) vwCl [(am 0, .inr (9, ((mf0 am).set 6 (.int 9)))), (am 5, .inl (cB, 600, .inl (upd g0 (Int32.toNatClampNeg 8) (vp_nar .byte ((p1 >>> (24 &&& 31)).toInt8.toInt32)))))] H := hP
  have hD : va_D A [(am 0, .inr (9, ((mf0 am).set 6 (.int 9)))), (am 5, .inl (cB, 600, .inl (upd g0 (Int32.toNatClampNeg 8) (vp_nar .byte ((p1 >>> (24 &&& 31)).toInt8.toInt32)))))] := hD
  refine lv_iinc (v := 16) (lv' := [(2, .int 16), (0, .ref (am 0)), (1, .int p1)]) hx hb dX9_four_30 hl (k := 0) rfl (by decide) (by decide) rfl (fun ls hl => ?_)
  refine lv_goto (tgt := 3) hx hb dX9_four_33 (by decide) ?_
  refine lv_iload_n hx hb dX9_four_3 rfl (lv_at hl 0 rfl) ?_
  refine lv_if_lt (tgt := 36) hx hb dX9_four_4 (by decide) (fun c => absurd c (by decide)) (fun _ => ?_)
  refine lv_aload_n hx hb dX9_four_7 rfl (lv_at hl 1 rfl) ?_
  refine va_get (D := (dC, dI)) (ci := 9) (v := .ref (am 5)) (C := RX9) (T := TX9) (N := 60) hx hb hts hi9 hown hK hP 0 rfl rfl 5 (by decide) hk0 (fun _ h9 => h9) rfl dX9_four_8 ?_
  refine lv_aload_n hx hb dX9_four_11 rfl (lv_at hl 1 rfl) ?_
  refine va_get (D := (dC, dI)) (ci := 9) (v := .int 9) (C := RX9) (T := TX9) (N := 60) hx hb hts hi9 hown hK hP 0 rfl rfl 6 (by decide) hk1 (fun _ h9 => h9) rfl dX9_four_12 ?_
  refine lv_iload_n hx hb dX9_four_15 rfl (lv_at hl 2 rfl) ?_
  refine lv_iload_n hx hb dX9_four_16 rfl (lv_at hl 0 rfl) ?_
  refine lv_ishr hx hb dX9_four_17 ?_
  refine lv_i2b hx hb dX9_four_18 rfl ?_
  refine va_bast hx hb hK hP hD hS 1 0 rfl rfl (z_in (a := 9) (by decide) (by decide) (by decide)) dX9_four_19 (fun H locs hP hD hS => ?_)
  have hP : va_P (dC, dI) vwCl [(am 0, .inr (9, ((mf0 am).set 6 (.int 9)))), (am 5, .inl (cB, 600, .inl (upd (upd g0 (Int32.toNatClampNeg 8) (vp_nar .byte ((p1 >>> (24 &&& 31)).toInt8.toInt32))) (Int32.toNatClampNeg 9) (vp_nar .byte ((p1 >>> (16 &&& 31)).toInt8.toInt32)))))] H := hP
  have hD : va_D A [(am 0, .inr (9, ((mf0 am).set 6 (.int 9)))), (am 5, .inl (cB, 600, .inl (upd (upd g0 (Int32.toNatClampNeg 8) (vp_nar .byte ((p1 >>> (24 &&& 31)).toInt8.toInt32))) (Int32.toNatClampNeg 9) (vp_nar .byte ((p1 >>> (16 &&& 31)).toInt8.toInt32)))))] := hD
  refine lv_aload_n hx hb dX9_four_20 rfl (lv_at hl 1 rfl) ?_
  refine lv_dup hx hb dX9_four_21 rfl ?_
  refine va_get (D := (dC, dI)) (ci := 9) (v := .int 9) (C := RX9) (T := TX9) (N := 60) hx hb hts hi9 hown hK hP 0 rfl rfl 6 (by decide) hk1 (fun _ h9 => h9) rfl dX9_four_22 ?_
  refine lv_iconst (v := 1) hx hb dX9_four_25 (by decide) ?_
  refine lv_iadd hx hb dX9_four_26 ?_
  refine z_topi (y := 10) (by decide +kernel) ?_
  refine va_put (D := (dC, dI)) (ci := 9) (v := .int 10) (ty := .int) (C := RX9) (T := TX9) (N := 60) hx hb hts hi9 tyX9 tyX9_ok nmX9 hown hK hP hD hS 0 rfl rfl 6 (by decide) hk1 (fun _ h9 => h9) rfl (by decide +kernel) rfl rfl (Nat.le_of_ble_eq_true rfl) dX9_four_27 (fun H locs hP hD hS => ?_)
  have hP : va_P (dC, dI) vwCl [(am 0, .inr (9, ((mf0 am).set 6 (.int 10)))), (am 5, .inl (cB, 600, .inl (upd (upd g0 (Int32.toNatClampNeg 8) (vp_nar .byte ((p1 >>> (24 &&& 31)).toInt8.toInt32))) (Int32.toNatClampNeg 9) (vp_nar .byte ((p1 >>> (16 &&& 31)).toInt8.toInt32)))))] H := hP
  have hD : va_D A [(am 0, .inr (9, ((mf0 am).set 6 (.int 10)))), (am 5, .inl (cB, 600, .inl (upd (upd g0 (Int32.toNatClampNeg 8) (vp_nar .byte ((p1 >>> (24 &&& 31)).toInt8.toInt32))) (Int32.toNatClampNeg 9) (vp_nar .byte ((p1 >>> (16 &&& 31)).toInt8.toInt32)))))] := hD
  refine lv_iinc (v := 8) (lv' := [(2, .int 8), (0, .ref (am 0)), (1, .int p1)]) hx hb dX9_four_30 hl (k := 0) rfl (by decide) (by decide) rfl (fun ls hl => ?_)
  refine lv_goto (tgt := 3) hx hb dX9_four_33 (by decide) ?_
  refine lv_iload_n hx hb dX9_four_3 rfl (lv_at hl 0 rfl) ?_
  refine lv_if_lt (tgt := 36) hx hb dX9_four_4 (by decide) (fun c => absurd c (by decide)) (fun _ => ?_)
  refine lv_aload_n hx hb dX9_four_7 rfl (lv_at hl 1 rfl) ?_
  refine va_get (D := (dC, dI)) (ci := 9) (v := .ref (am 5)) (C := RX9) (T := TX9) (N := 60) hx hb hts hi9 hown hK hP 0 rfl rfl 5 (by decide) hk0 (fun _ h9 => h9) rfl dX9_four_8 ?_
  refine lv_aload_n hx hb dX9_four_11 rfl (lv_at hl 1 rfl) ?_
  refine va_get (D := (dC, dI)) (ci := 9) (v := .int 10) (C := RX9) (T := TX9) (N := 60) hx hb hts hi9 hown hK hP 0 rfl rfl 6 (by decide) hk1 (fun _ h9 => h9) rfl dX9_four_12 ?_
  refine lv_iload_n hx hb dX9_four_15 rfl (lv_at hl 2 rfl) ?_
  refine lv_iload_n hx hb dX9_four_16 rfl (lv_at hl 0 rfl) ?_
  refine lv_ishr hx hb dX9_four_17 ?_
  refine lv_i2b hx hb dX9_four_18 rfl ?_
  refine va_bast hx hb hK hP hD hS 1 0 rfl rfl (z_in (a := 10) (by decide) (by decide) (by decide)) dX9_four_19 (fun H locs hP hD hS => ?_)
  have hP : va_P (dC, dI) vwCl [(am 0, .inr (9, ((mf0 am).set 6 (.int 10)))), (am 5, .inl (cB, 600, .inl (upd (upd (upd g0 (Int32.toNatClampNeg 8) (vp_nar .byte ((p1 >>> (24 &&& 31)).toInt8.toInt32))) (Int32.toNatClampNeg 9) (vp_nar .byte ((p1 >>> (16 &&& 31)).toInt8.toInt32))) (Int32.toNatClampNeg 10) (vp_nar .byte ((p1 >>> (8 &&& 31)).toInt8.toInt32)))))] H := hP
  have hD : va_D A [(am 0, .inr (9, ((mf0 am).set 6 (.int 10)))), (am 5, .inl (cB, 600, .inl (upd (upd (upd g0 (Int32.toNatClampNeg 8) (vp_nar .byte ((p1 >>> (24 &&& 31)).toInt8.toInt32))) (Int32.toNatClampNeg 9) (vp_nar .byte ((p1 >>> (16 &&& 31)).toInt8.toInt32))) (Int32.toNatClampNeg 10) (vp_nar .byte ((p1 >>> (8 &&& 31)).toInt8.toInt32)))))] := hD
  refine lv_aload_n hx hb dX9_four_20 rfl (lv_at hl 1 rfl) ?_
  refine lv_dup hx hb dX9_four_21 rfl ?_
  refine va_get (D := (dC, dI)) (ci := 9) (v := .int 10) (C := RX9) (T := TX9) (N := 60) hx hb hts hi9 hown hK hP 0 rfl rfl 6 (by decide) hk1 (fun _ h9 => h9) rfl dX9_four_22 ?_
  refine lv_iconst (v := 1) hx hb dX9_four_25 (by decide) ?_
  refine lv_iadd hx hb dX9_four_26 ?_
  refine z_topi (y := 11) (by decide +kernel) ?_
  refine va_put (D := (dC, dI)) (ci := 9) (v := .int 11) (ty := .int) (C := RX9) (T := TX9) (N := 60) hx hb hts hi9 tyX9 tyX9_ok nmX9 hown hK hP hD hS 0 rfl rfl 6 (by decide) hk1 (fun _ h9 => h9) rfl (by decide +kernel) rfl rfl (Nat.le_of_ble_eq_true rfl) dX9_four_27 (fun H locs hP hD hS => ?_)
  have hP : va_P (dC, dI) vwCl [(am 0, .inr (9, ((mf0 am).set 6 (.int 11)))), (am 5, .inl (cB, 600, .inl (upd (upd (upd g0 (Int32.toNatClampNeg 8) (vp_nar .byte ((p1 >>> (24 &&& 31)).toInt8.toInt32))) (Int32.toNatClampNeg 9) (vp_nar .byte ((p1 >>> (16 &&& 31)).toInt8.toInt32))) (Int32.toNatClampNeg 10) (vp_nar .byte ((p1 >>> (8 &&& 31)).toInt8.toInt32)))))] H := hP
  have hD : va_D A [(am 0, .inr (9, ((mf0 am).set 6 (.int 11)))), (am 5, .inl (cB, 600, .inl (upd (upd (upd g0 (Int32.toNatClampNeg 8) (vp_nar .byte ((p1 >>> (24 &&& 31)).toInt8.toInt32))) (Int32.toNatClampNeg 9) (vp_nar .byte ((p1 >>> (16 &&& 31)).toInt8.toInt32))) (Int32.toNatClampNeg 10) (vp_nar .byte ((p1 >>> (8 &&& 31)).toInt8.toInt32)))))] := hD
  refine lv_iinc (v := 0) (lv' := [(2, .int 0), (0, .ref (am 0)), (1, .int p1)]) hx hb dX9_four_30 hl (k := 0) rfl (by decide) (by decide) rfl (fun ls hl => ?_)
  refine lv_goto (tgt := 3) hx hb dX9_four_33 (by decide) ?_
  refine lv_iload_n hx hb dX9_four_3 rfl (lv_at hl 0 rfl) ?_
  refine lv_if_lt (tgt := 36) hx hb dX9_four_4 (by decide) (fun c => absurd c (by decide)) (fun _ => ?_)
  refine lv_aload_n hx hb dX9_four_7 rfl (lv_at hl 1 rfl) ?_
  refine va_get (D := (dC, dI)) (ci := 9) (v := .ref (am 5)) (C := RX9) (T := TX9) (N := 60) hx hb hts hi9 hown hK hP 0 rfl rfl 5 (by decide) hk0 (fun _ h9 => h9) rfl dX9_four_8 ?_
  refine lv_aload_n hx hb dX9_four_11 rfl (lv_at hl 1 rfl) ?_
  refine va_get (D := (dC, dI)) (ci := 9) (v := .int 11) (C := RX9) (T := TX9) (N := 60) hx hb hts hi9 hown hK hP 0 rfl rfl 6 (by decide) hk1 (fun _ h9 => h9) rfl dX9_four_12 ?_
  refine lv_iload_n hx hb dX9_four_15 rfl (lv_at hl 2 rfl) ?_
  refine lv_iload_n hx hb dX9_four_16 rfl (lv_at hl 0 rfl) ?_
  refine lv_ishr hx hb dX9_four_17 ?_
  refine lv_i2b hx hb dX9_four_18 rfl ?_
  refine va_bast hx hb hK hP hD hS 1 0 rfl rfl (z_in (a := 11) (by decide) (by decide) (by decide)) dX9_four_19 (fun H locs hP hD hS => ?_)
  have hP : va_P (dC, dI) vwCl [(am 0, .inr (9, ((mf0 am).set 6 (.int 11)))), (am 5, .inl (cB, 600, .inl (upd (upd (upd (upd g0 (Int32.toNatClampNeg 8) (vp_nar .byte ((p1 >>> (24 &&& 31)).toInt8.toInt32))) (Int32.toNatClampNeg 9) (vp_nar .byte ((p1 >>> (16 &&& 31)).toInt8.toInt32))) (Int32.toNatClampNeg 10) (vp_nar .byte ((p1 >>> (8 &&& 31)).toInt8.toInt32))) (Int32.toNatClampNeg 11) (vp_nar .byte ((p1 >>> (0 &&& 31)).toInt8.toInt32)))))] H := hP
  have hD : va_D A [(am 0, .inr (9, ((mf0 am).set 6 (.int 11)))), (am 5, .inl (cB, 600, .inl (upd (upd (upd (upd g0 (Int32.toNatClampNeg 8) (vp_nar .byte ((p1 >>> (24 &&& 31)).toInt8.toInt32))) (Int32.toNatClampNeg 9) (vp_nar .byte ((p1 >>> (16 &&& 31)).toInt8.toInt32))) (Int32.toNatClampNeg 10) (vp_nar .byte ((p1 >>> (8 &&& 31)).toInt8.toInt32))) (Int32.toNatClampNeg 11) (vp_nar .byte ((p1 >>> (0 &&& 31)).toInt8.toInt32)))))] := hD
  refine lv_aload_n hx hb dX9_four_20 rfl (lv_at hl 1 rfl) ?_
  refine lv_dup hx hb dX9_four_21 rfl ?_
  refine va_get (D := (dC, dI)) (ci := 9) (v := .int 11) (C := RX9) (T := TX9) (N := 60) hx hb hts hi9 hown hK hP 0 rfl rfl 6 (by decide) hk1 (fun _ h9 => h9) rfl dX9_four_22 ?_
  refine lv_iconst (v := 1) hx hb dX9_four_25 (by decide) ?_
  refine lv_iadd hx hb dX9_four_26 ?_
  refine z_topi (y := 12) (by decide +kernel) ?_
  refine va_put (D := (dC, dI)) (ci := 9) (v := .int 12) (ty := .int) (C := RX9) (T := TX9) (N := 60) hx hb hts hi9 tyX9 tyX9_ok nmX9 hown hK hP hD hS 0 rfl rfl 6 (by decide) hk1 (fun _ h9 => h9) rfl (by decide +kernel) rfl rfl (Nat.le_of_ble_eq_true rfl) dX9_four_27 (fun H locs hP hD hS => ?_)
  have hP : va_P (dC, dI) vwCl [(am 0, .inr (9, ((mf0 am).set 6 (.int 12)))), (am 5, .inl (cB, 600, .inl (upd (upd (upd (upd g0 (Int32.toNatClampNeg 8) (vp_nar .byte ((p1 >>> (24 &&& 31)).toInt8.toInt32))) (Int32.toNatClampNeg 9) (vp_nar .byte ((p1 >>> (16 &&& 31)).toInt8.toInt32))) (Int32.toNatClampNeg 10) (vp_nar .byte ((p1 >>> (8 &&& 31)).toInt8.toInt32))) (Int32.toNatClampNeg 11) (vp_nar .byte ((p1 >>> (0 &&& 31)).toInt8.toInt32)))))] H := hP
  have hD : va_D A [(am 0, .inr (9, ((mf0 am).set 6 (.int 12)))), (am 5, .inl (cB, 600, .inl (upd (upd (upd (upd g0 (Int32.toNatClampNeg 8) (vp_nar .byte ((p1 >>> (24 &&& 31)).toInt8.toInt32))) (Int32.toNatClampNeg 9) (vp_nar .byte ((p1 >>> (16 &&& 31)).toInt8.toInt32))) (Int32.toNatClampNeg 10) (vp_nar .byte ((p1 >>> (8 &&& 31)).toInt8.toInt32))) (Int32.toNatClampNeg 11) (vp_nar .byte ((p1 >>> (0 &&& 31)).toInt8.toInt32)))))] := hD
  refine lv_iinc (v := (-8)) (lv' := [(2, .int (-8)), (0, .ref (am 0)), (1, .int p1)]) hx hb dX9_four_30 hl (k := 0) rfl (by decide) (by decide) rfl (fun ls hl => ?_)
  refine lv_goto (tgt := 3) hx hb dX9_four_33 (by decide) ?_
  refine lv_iload_n hx hb dX9_four_3 rfl (lv_at hl 0 rfl) ?_
  refine lv_if_lt (tgt := 36) hx hb dX9_four_4 (by decide) (fun _ => ?_) (fun c => absurd (by decide) c)
  exact z_vret () hx hb hr hlocks hK hP hD hS hAe hQ rfl trivial dX9_four_36
set_option maxHeartbeats 4000000 in
set_option maxRecDepth 100000 in
theorem c_X9_four_149 (l : Launch) (dC : Nat → ClassId) (dI : Nat → Nat → Nat) (cB cI cJ cZ cP cQ : ClassId) (am : Nat → Nat) (sz : Nat) (p1 : Int32) (g0 : Nat → Int32) : Met l yX9_four wsX9_four ({ frames := 0, cells := 0, slots := 0, locals := 0 } : Room) (zPc [.ref (am 0), .int p1] (dC, dI) (zT cB cI cJ cZ cP cQ) [(am 0, .inr (9, ((mf0 am).set 6 (.int 12)))), (am 5, .inl (cB, 600, .inl g0))] sz [] []) (va_Qv (fun _ => True) (zB (dC, dI) (zT cB cI cJ cZ cP cQ) (fun _ : Unit => [(am 0, .inr (9, ((mf0 am).set 6 (.int 16)))), (am 5, .inl (cB, 600, .inl (upd (upd (upd (upd g0 (Int32.toNatClampNeg 12) (vp_nar .byte ((p1 >>> (24 &&& 31)).toInt8.toInt32))) (Int32.toNatClampNeg 13) (vp_nar .byte ((p1 >>> (16 &&& 31)).toInt8.toInt32))) (Int32.toNatClampNeg 14) (vp_nar .byte ((p1 >>> (8 &&& 31)).toInt8.toInt32))) (Int32.toNatClampNeg 15) (vp_nar .byte ((p1 >>> (0 &&& 31)).toInt8.toInt32)))))]) [(am 0, .inr (9, ((mf0 am).set 6 (.int 12)))), (am 5, .inl (cB, 600, .inl g0))] sz) (va_A [(am 0, .inr (9, ((mf0 am).set 6 (.int 12)))), (am 5, .inl (cB, 600, .inl g0))] sz)) 0 0 (va_A [(am 0, .inr (9, ((mf0 am).set 6 (.int 12)))), (am 5, .inl (cB, 600, .inl g0))] sz) := by
  refine z_enter (cc := cX9_four) (maxL := 3) (ret := none) (by decide) rfl (Nat.le_of_ble_eq_true rfl) ?_
  intro p e s m below meth c A ls Q H locs hx hb hr hml hown hts hlocks hin hK hP hD hA hX hS hAe hQ hl
  have hown : s.vm.findClass RX9 = some m.cls := hown
  have hi9 : ∀ w ∈ wsX90, w ∈ wsX9_four := fun w h => List.mem_cons_of_mem _ (List.mem_append_right _ h)
  have hk0 := hts (.fieldLink RX9 23 "MonthPushModel" "tape" "[B") (by decide +kernel)
  have hk1 := hts (.fieldLink RX9 142 "MonthPushModel" "taped" "I") (by decide +kernel)
  have hl : lv_has ls 3 [(0, .ref (am 0)), (1, .int p1)] := hl
  refine lv_bipush (v := 24) hx hb dX9_four_0 (by decide) ?_
  refine lv_istore_n (lv' := [(2, .int 24), (0, .ref (am 0)), (1, .int p1)]) hx hb dX9_four_2 rfl hl (by decide) rfl (fun ls hl => ?_)
  refine lv_iload_n hx hb dX9_four_3 rfl (lv_at hl 0 rfl) ?_
  refine lv_if_lt (tgt := 36) hx hb dX9_four_4 (by decide) (fun c => absurd c (by decide)) (fun _ => ?_)
  refine lv_aload_n hx hb dX9_four_7 rfl (lv_at hl 1 rfl) ?_
  refine va_get (D := (dC, dI)) (ci := 9) (v := .ref (am 5)) (C := RX9) (T := TX9) (N := 60) hx hb hts hi9 hown hK hP 0 rfl rfl 5 (by decide) hk0 (fun _ h9 => h9) rfl dX9_four_8 ?_
  refine lv_aload_n hx hb dX9_four_11 rfl (lv_at hl 1 rfl) ?_
  refine va_get (D := (dC, dI)) (ci := 9) (v := .int 12) (C := RX9) (T := TX9) (N := 60) hx hb hts hi9 hown hK hP 0 rfl rfl 6 (by decide) hk1 (fun _ h9 => h9) rfl dX9_four_12 ?_
  refine lv_iload_n hx hb dX9_four_15 rfl (lv_at hl 2 rfl) ?_
  refine lv_iload_n hx hb dX9_four_16 rfl (lv_at hl 0 rfl) ?_
  refine lv_ishr hx hb dX9_four_17 ?_
  refine lv_i2b hx hb dX9_four_18 rfl ?_
  refine va_bast hx hb hK hP hD hS 1 0 rfl rfl (z_in (a := 12) (by decide) (by decide) (by decide)) dX9_four_19 (fun H locs hP hD hS => ?_)
  have hP : va_P (dC, dI) vwCl [(am 0, .inr (9, ((mf0 am).set 6 (.int 12)))), (am 5, .inl (cB, 600, .inl (upd g0 (Int32.toNatClampNeg 12) (vp_nar .byte ((p1 >>> (24 &&& 31)).toInt8.toInt32)))))] H := hP
  have hD : va_D A [(am 0, .inr (9, ((mf0 am).set 6 (.int 12)))), (am 5, .inl (cB, 600, .inl (upd g0 (Int32.toNatClampNeg 12) (vp_nar .byte ((p1 >>> (24 &&& 31)).toInt8.toInt32)))))] := hD
  refine lv_aload_n hx hb dX9_four_20 rfl (lv_at hl 1 rfl) ?_
  refine lv_dup hx hb dX9_four_21 rfl ?_
  refine va_get (D := (dC, dI)) (ci := 9) (v := .int 12) (C := RX9) (T := TX9) (N := 60) hx hb hts hi9 hown hK hP 0 rfl rfl 6 (by decide) hk1 (fun _ h9 => h9) rfl dX9_four_22 ?_
  refine lv_iconst (v := 1) hx hb dX9_four_25 (by decide) ?_
  refine lv_iadd hx hb dX9_four_26 ?_
  refine z_topi (y := 13) (by decide +kernel) ?_
  refine va_put (D := (dC, dI)) (ci := 9) (v := .int 13) (ty := .int) (C := RX9) (T := TX9) (N := 60) hx hb hts hi9 tyX9 tyX9_ok nmX9 hown hK hP hD hS 0 rfl rfl 6 (by decide) hk1 (fun _ h9 => h9) rfl (by decide +kernel) rfl rfl (Nat.le_of_ble_eq_true rfl) dX9_four_27 (fun H locs hP hD hS => ?_)
  have hP : va_P (dC, dI) vwCl [(am 0, .inr (9, ((mf0 am).set 6 (.int 13)))), (am 5, .inl (cB, 600, .inl (upd g0 (Int32.toNatClampNeg 12) (vp_nar .byte ((p1 >>> (24 &&& 31)).toInt8.toInt32)))))] H := hP
  have hD : va_D A [(am 0, .inr (9, ((mf0 am).set 6 (.int 13)))), (am 5, .inl (cB, 600, .inl (upd g0 (Int32.toNatClampNeg 12) (vp_nar .byte ((p1 >>> (24 &&& 31)).toInt8.toInt32)))))] := hD
  refine lv_iinc (v := 16) (lv' := [(2, .int 16), (0, .ref (am 0)), (1, .int p1)]) hx hb dX9_four_30 hl (k := 0) rfl (by decide) (by decide) rfl (fun ls hl => ?_)
  refine lv_goto (tgt := 3) hx hb dX9_four_33 (by decide) ?_
  refine lv_iload_n hx hb dX9_four_3 rfl (lv_at hl 0 rfl) ?_
  refine lv_if_lt (tgt := 36) hx hb dX9_four_4 (by decide) (fun c => absurd c (by decide)) (fun _ => ?_)
  refine lv_aload_n hx hb dX9_four_7 rfl (lv_at hl 1 rfl) ?_
  refine va_get (D := (dC, dI)) (ci := 9) (v := .ref (am 5)) (C := RX9) (T := TX9) (N := 60) hx hb hts hi9 hown hK hP 0 rfl rfl 5 (by decide) hk0 (fun _ h9 => h9) rfl dX9_four_8 ?_
  refine lv_aload_n hx hb dX9_four_11 rfl (lv_at hl 1 rfl) ?_
  refine va_get (D := (dC, dI)) (ci := 9) (v := .int 13) (C := RX9) (T := TX9) (N := 60) hx hb hts hi9 hown hK hP 0 rfl rfl 6 (by decide) hk1 (fun _ h9 => h9) rfl dX9_four_12 ?_
  refine lv_iload_n hx hb dX9_four_15 rfl (lv_at hl 2 rfl) ?_
  refine lv_iload_n hx hb dX9_four_16 rfl (lv_at hl 0 rfl) ?_
  refine lv_ishr hx hb dX9_four_17 ?_
  refine lv_i2b hx hb dX9_four_18 rfl ?_
  refine va_bast hx hb hK hP hD hS 1 0 rfl rfl (z_in (a := 13) (by decide) (by decide) (by decide)) dX9_four_19 (fun H locs hP hD hS => ?_)
  have hP : va_P (dC, dI) vwCl [(am 0, .inr (9, ((mf0 am).set 6 (.int 13)))), (am 5, .inl (cB, 600, .inl (upd (upd g0 (Int32.toNatClampNeg 12) (vp_nar .byte ((p1 >>> (24 &&& 31)).toInt8.toInt32))) (Int32.toNatClampNeg 13) (vp_nar .byte ((p1 >>> (16 &&& 31)).toInt8.toInt32)))))] H := hP
  have hD : va_D A [(am 0, .inr (9, ((mf0 am).set 6 (.int 13)))), (am 5, .inl (cB, 600, .inl (upd (upd g0 (Int32.toNatClampNeg 12) (vp_nar .byte ((p1 >>> (24 &&& 31)).toInt8.toInt32))) (Int32.toNatClampNeg 13) (vp_nar .byte ((p1 >>> (16 &&& 31)).toInt8.toInt32)))))] := hD
  refine lv_aload_n hx hb dX9_four_20 rfl (lv_at hl 1 rfl) ?_
  refine lv_dup hx hb dX9_four_21 rfl ?_
  refine va_get (D := (dC, dI)) (ci := 9) (v := .int 13) (C := RX9) (T := TX9) (N := 60) hx hb hts hi9 hown hK hP 0 rfl rfl 6 (by decide) hk1 (fun _ h9 => h9) rfl dX9_four_22 ?_
  refine lv_iconst (v := 1) hx hb dX9_four_25 (by decide) ?_
  refine lv_iadd hx hb dX9_four_26 ?_
  refine z_topi (y := 14) (by decide +kernel) ?_
  refine va_put (D := (dC, dI)) (ci := 9) (v := .int 14) (ty := .int) (C := RX9) (T := TX9) (N := 60) hx hb hts hi9 tyX9 tyX9_ok nmX9 hown hK hP hD hS 0 rfl rfl 6 (by decide) hk1 (fun _ h9 => h9) rfl (by decide +kernel) rfl rfl (Nat.le_of_ble_eq_true rfl) dX9_four_27 (fun H locs hP hD hS => ?_)
  have hP : va_P (dC, dI) vwCl [(am 0, .inr (9, ((mf0 am).set 6 (.int 14)))), (am 5, .inl (cB, 600, .inl (upd (upd g0 (Int32.toNatClampNeg 12) (vp_nar .byte ((p1 >>> (24 &&& 31)).toInt8.toInt32))) (Int32.toNatClampNeg 13) (vp_nar .byte ((p1 >>> (16 &&& 31)).toInt8.toInt32)))))] H := hP
  have hD : va_D A [(am 0, .inr (9, ((mf0 am).set 6 (.int 14)))), (am 5, .inl (cB, 600, .inl (upd (upd g0 (Int32.toNatClampNeg 12) (vp_nar .byte ((p1 >>> (24 &&& 31)).toInt8.toInt32))) (Int32.toNatClampNeg 13) (vp_nar .byte ((p1 >>> (16 &&& 31)).toInt8.toInt32)))))] := hD
  refine lv_iinc (v := 8) (lv' := [(2, .int 8), (0, .ref (am 0)), (1, .int p1)]) hx hb dX9_four_30 hl (k := 0) rfl (by decide) (by decide) rfl (fun ls hl => ?_)
  refine lv_goto (tgt := 3) hx hb dX9_four_33 (by decide) ?_
  refine lv_iload_n hx hb dX9_four_3 rfl (lv_at hl 0 rfl) ?_
  refine lv_if_lt (tgt := 36) hx hb dX9_four_4 (by decide) (fun c => absurd c (by decide)) (fun _ => ?_)
  refine lv_aload_n hx hb dX9_four_7 rfl (lv_at hl 1 rfl) ?_
  refine va_get (D := (dC, dI)) (ci := 9) (v := .ref (am 5)) (C := RX9) (T := TX9) (N := 60) hx hb hts hi9 hown hK hP 0 rfl rfl 5 (by decide) hk0 (fun _ h9 => h9) rfl dX9_four_8 ?_
  refine lv_aload_n hx hb dX9_four_11 rfl (lv_at hl 1 rfl) ?_
  refine va_get (D := (dC, dI)) (ci := 9) (v := .int 14) (C := RX9) (T := TX9) (N := 60) hx hb hts hi9 hown hK hP 0 rfl rfl 6 (by decide) hk1 (fun _ h9 => h9) rfl dX9_four_12 ?_
  refine lv_iload_n hx hb dX9_four_15 rfl (lv_at hl 2 rfl) ?_
  refine lv_iload_n hx hb dX9_four_16 rfl (lv_at hl 0 rfl) ?_
  refine lv_ishr hx hb dX9_four_17 ?_
  refine lv_i2b hx hb dX9_four_18 rfl ?_
  refine va_bast hx hb hK hP hD hS 1 0 rfl rfl (z_in (a := 14) (by decide) (by decide) (by decide)) dX9_four_19 (fun H locs hP hD hS => ?_)
  have hP : va_P (dC, dI) vwCl [(am 0, .inr (9, ((mf0 am).set 6 (.int 14)))), (am 5, .inl (cB, 600, .inl (upd (upd (upd g0 (Int32.toNatClampNeg 12) (vp_nar .byte ((p1 >>> (24 &&& 31)).toInt8.toInt32))) (Int32.toNatClampNeg 13) (vp_nar .byte ((p1 >>> (16 &&& 31)).toInt8.toInt32))) (Int32.toNatClampNeg 14) (vp_nar .byte ((p1 >>> (8 &&& 31)).toInt8.toInt32)))))] H := hP
  have hD : va_D A [(am 0, .inr (9, ((mf0 am).set 6 (.int 14)))), (am 5, .inl (cB, 600, .inl (upd (upd (upd g0 (Int32.toNatClampNeg 12) (vp_nar .byte ((p1 >>> (24 &&& 31)).toInt8.toInt32))) (Int32.toNatClampNeg 13) (vp_nar .byte ((p1 >>> (16 &&& 31)).toInt8.toInt32))) (Int32.toNatClampNeg 14) (vp_nar .byte ((p1 >>> (8 &&& 31)).toInt8.toInt32)))))] := hD
  refine lv_aload_n hx hb dX9_four_20 rfl (lv_at hl 1 rfl) ?_
  refine lv_dup hx hb dX9_four_21 rfl ?_
  refine va_get (D := (dC, dI)) (ci := 9) (v := .int 14) (C := RX9) (T := TX9) (N := 60) hx hb hts hi9 hown hK hP 0 rfl rfl 6 (by decide) hk1 (fun _ h9 => h9) rfl dX9_four_22 ?_
  refine lv_iconst (v := 1) hx hb dX9_four_25 (by decide) ?_
  refine lv_iadd hx hb dX9_four_26 ?_
  refine z_topi (y := 15) (by decide +kernel) ?_
  refine va_put (D := (dC, dI)) (ci := 9) (v := .int 15) (ty := .int) (C := RX9) (T := TX9) (N := 60) hx hb hts hi9 tyX9 tyX9_ok nmX9 hown hK hP hD hS 0 rfl rfl 6 (by decide) hk1 (fun _ h9 => h9) rfl (by decide +kernel) rfl rfl (Nat.le_of_ble_eq_true rfl) dX9_four_27 (fun H locs hP hD hS => ?_)
  have hP : va_P (dC, dI) vwCl [(am 0, .inr (9, ((mf0 am).set 6 (.int 15)))), (am 5, .inl (cB, 600, .inl (upd (upd (upd g0 (Int32.toNatClampNeg 12) (vp_nar .byte ((p1 >>> (24 &&& 31)).toInt8.toInt32))) (Int32.toNatClampNeg 13) (vp_nar .byte ((p1 >>> (16 &&& 31)).toInt8.toInt32))) (Int32.toNatClampNeg 14) (vp_nar .byte ((p1 >>> (8 &&& 31)).toInt8.toInt32)))))] H := hP
  have hD : va_D A [(am 0, .inr (9, ((mf0 am).set 6 (.int 15)))), (am 5, .inl (cB, 600, .inl (upd (upd (upd g0 (Int32.toNatClampNeg 12) (vp_nar .byte ((p1 >>> (24 &&& 31)).toInt8.toInt32))) (Int32.toNatClampNeg 13) (vp_nar .byte ((p1 >>> (16 &&& 31)).toInt8.toInt32))) (Int32.toNatClampNeg 14) (vp_nar .byte ((p1 >>> (8 &&& 31)).toInt8.toInt32)))))] := hD
  refine lv_iinc (v := 0) (lv' := [(2, .int 0), (0, .ref (am 0)), (1, .int p1)]) hx hb dX9_four_30 hl (k := 0) rfl (by decide) (by decide) rfl (fun ls hl => ?_)
  refine lv_goto (tgt := 3) hx hb dX9_four_33 (by decide) ?_
  refine lv_iload_n hx hb dX9_four_3 rfl (lv_at hl 0 rfl) ?_
  refine lv_if_lt (tgt := 36) hx hb dX9_four_4 (by decide) (fun c => absurd c (by decide)) (fun _ => ?_)
  refine lv_aload_n hx hb dX9_four_7 rfl (lv_at hl 1 rfl) ?_
  refine va_get (D := (dC, dI)) (ci := 9) (v := .ref (am 5)) (C := RX9) (T := TX9) (N := 60) hx hb hts hi9 hown hK hP 0 rfl rfl 5 (by decide) hk0 (fun _ h9 => h9) rfl dX9_four_8 ?_
  refine lv_aload_n hx hb dX9_four_11 rfl (lv_at hl 1 rfl) ?_
  refine va_get (D := (dC, dI)) (ci := 9) (v := .int 15) (C := RX9) (T := TX9) (N := 60) hx hb hts hi9 hown hK hP 0 rfl rfl 6 (by decide) hk1 (fun _ h9 => h9) rfl dX9_four_12 ?_
  refine lv_iload_n hx hb dX9_four_15 rfl (lv_at hl 2 rfl) ?_
  refine lv_iload_n hx hb dX9_four_16 rfl (lv_at hl 0 rfl) ?_
  refine lv_ishr hx hb dX9_four_17 ?_
  refine lv_i2b hx hb dX9_four_18 rfl ?_
  refine va_bast hx hb hK hP hD hS 1 0 rfl rfl (z_in (a := 15) (by decide) (by decide) (by decide)) dX9_four_19 (fun H locs hP hD hS => ?_)
  have hP : va_P (dC, dI) vwCl [(am 0, .inr (9, ((mf0 am).set 6 (.int 15)))), (am 5, .inl (cB, 600, .inl (upd (upd (upd (upd g0 (Int32.toNatClampNeg 12) (vp_nar .byte ((p1 >>> (24 &&& 31)).toInt8.toInt32))) (Int32.toNatClampNeg 13) (vp_nar .byte ((p1 >>> (16 &&& 31)).toInt8.toInt32))) (Int32.toNatClampNeg 14) (vp_nar .byte ((p1 >>> (8 &&& 31)).toInt8.toInt32))) (Int32.toNatClampNeg 15) (vp_nar .byte ((p1 >>> (0 &&& 31)).toInt8.toInt32)))))] H := hP
  have hD : va_D A [(am 0, .inr (9, ((mf0 am).set 6 (.int 15)))), (am 5, .inl (cB, 600, .inl (upd (upd (upd (upd g0 (Int32.toNatClampNeg 12) (vp_nar .byte ((p1 >>> (24 &&& 31)).toInt8.toInt32))) (Int32.toNatClampNeg 13) (vp_nar .byte ((p1 >>> (16 &&& 31)).toInt8.toInt32))) (Int32.toNatClampNeg 14) (vp_nar .byte ((p1 >>> (8 &&& 31)).toInt8.toInt32))) (Int32.toNatClampNeg 15) (vp_nar .byte ((p1 >>> (0 &&& 31)).toInt8.toInt32)))))] := hD
  refine lv_aload_n hx hb dX9_four_20 rfl (lv_at hl 1 rfl) ?_
  refine lv_dup hx hb dX9_four_21 rfl ?_
  refine va_get (D := (dC, dI)) (ci := 9) (v := .int 15) (C := RX9) (T := TX9) (N := 60) hx hb hts hi9 hown hK hP 0 rfl rfl 6 (by decide) hk1 (fun _ h9 => h9) rfl dX9_four_22 ?_
  refine lv_iconst (v := 1) hx hb dX9_four_25 (by decide) ?_
  refine lv_iadd hx hb dX9_four_26 ?_
  refine z_topi (y := 16) (by decide +kernel) ?_
  refine va_put (D := (dC, dI)) (ci := 9) (v := .int 16) (ty := .int) (C := RX9) (T := TX9) (N := 60) hx hb hts hi9 tyX9 tyX9_ok nmX9 hown hK hP hD hS 0 rfl rfl 6 (by decide) hk1 (fun _ h9 => h9) rfl (by decide +kernel) rfl rfl (Nat.le_of_ble_eq_true rfl) dX9_four_27 (fun H locs hP hD hS => ?_)
  have hP : va_P (dC, dI) vwCl [(am 0, .inr (9, ((mf0 am).set 6 (.int 16)))), (am 5, .inl (cB, 600, .inl (upd (upd (upd (upd g0 (Int32.toNatClampNeg 12) (vp_nar .byte ((p1 >>> (24 &&& 31)).toInt8.toInt32))) (Int32.toNatClampNeg 13) (vp_nar .byte ((p1 >>> (16 &&& 31)).toInt8.toInt32))) (Int32.toNatClampNeg 14) (vp_nar .byte ((p1 >>> (8 &&& 31)).toInt8.toInt32))) (Int32.toNatClampNeg 15) (vp_nar .byte ((p1 >>> (0 &&& 31)).toInt8.toInt32)))))] H := hP
  have hD : va_D A [(am 0, .inr (9, ((mf0 am).set 6 (.int 16)))), (am 5, .inl (cB, 600, .inl (upd (upd (upd (upd g0 (Int32.toNatClampNeg 12) (vp_nar .byte ((p1 >>> (24 &&& 31)).toInt8.toInt32))) (Int32.toNatClampNeg 13) (vp_nar .byte ((p1 >>> (16 &&& 31)).toInt8.toInt32))) (Int32.toNatClampNeg 14) (vp_nar .byte ((p1 >>> (8 &&& 31)).toInt8.toInt32))) (Int32.toNatClampNeg 15) (vp_nar .byte ((p1 >>> (0 &&& 31)).toInt8.toInt32)))))] := hD
  refine lv_iinc (v := (-8)) (lv' := [(2, .int (-8)), (0, .ref (am 0)), (1, .int p1)]) hx hb dX9_four_30 hl (k := 0) rfl (by decide) (by decide) rfl (fun ls hl => ?_)
  refine lv_goto (tgt := 3) hx hb dX9_four_33 (by decide) ?_
  refine lv_iload_n hx hb dX9_four_3 rfl (lv_at hl 0 rfl) ?_
  refine lv_if_lt (tgt := 36) hx hb dX9_four_4 (by decide) (fun _ => ?_) (fun c => absurd (by decide) c)
  exact z_vret () hx hb hr hlocks hK hP hD hS hAe hQ rfl trivial dX9_four_36
set_option maxHeartbeats 4000000 in
set_option maxRecDepth 100000 in
theorem c_X9_four_150 (l : Launch) (dC : Nat → ClassId) (dI : Nat → Nat → Nat) (cB cI cJ cZ cP cQ : ClassId) (am : Nat → Nat) (sz : Nat) (p1 : Int32) (g0 : Nat → Int32) : Met l yX9_four wsX9_four ({ frames := 0, cells := 0, slots := 0, locals := 0 } : Room) (zPc [.ref (am 0), .int p1] (dC, dI) (zT cB cI cJ cZ cP cQ) [(am 0, .inr (9, ((mf0 am).set 6 (.int 16)))), (am 5, .inl (cB, 600, .inl g0))] sz [] []) (va_Qv (fun _ => True) (zB (dC, dI) (zT cB cI cJ cZ cP cQ) (fun _ : Unit => [(am 0, .inr (9, ((mf0 am).set 6 (.int 20)))), (am 5, .inl (cB, 600, .inl (upd (upd (upd (upd g0 (Int32.toNatClampNeg 16) (vp_nar .byte ((p1 >>> (24 &&& 31)).toInt8.toInt32))) (Int32.toNatClampNeg 17) (vp_nar .byte ((p1 >>> (16 &&& 31)).toInt8.toInt32))) (Int32.toNatClampNeg 18) (vp_nar .byte ((p1 >>> (8 &&& 31)).toInt8.toInt32))) (Int32.toNatClampNeg 19) (vp_nar .byte ((p1 >>> (0 &&& 31)).toInt8.toInt32)))))]) [(am 0, .inr (9, ((mf0 am).set 6 (.int 16)))), (am 5, .inl (cB, 600, .inl g0))] sz) (va_A [(am 0, .inr (9, ((mf0 am).set 6 (.int 16)))), (am 5, .inl (cB, 600, .inl g0))] sz)) 0 0 (va_A [(am 0, .inr (9, ((mf0 am).set 6 (.int 16)))), (am 5, .inl (cB, 600, .inl g0))] sz) := by
  refine z_enter (cc := cX9_four) (maxL := 3) (ret := none) (by decide) rfl (Nat.le_of_ble_eq_true rfl) ?_
  intro p e s m below meth c A ls Q H locs hx hb hr hml hown hts hlocks hin hK hP hD hA hX hS hAe hQ hl
  have hown : s.vm.findClass RX9 = some m.cls := hown
  have hi9 : ∀ w ∈ wsX90, w ∈ wsX9_four := fun w h => List.mem_cons_of_mem _ (List.mem_append_right _ h)
  have hk0 := hts (.fieldLink RX9 23 "MonthPushModel" "tape" "[B") (by decide +kernel)
  have hk1 := hts (.fieldLink RX9 142 "MonthPushModel" "taped" "I") (by decide +kernel)
  have hl : lv_has ls 3 [(0, .ref (am 0)), (1, .int p1)] := hl
  refine lv_bipush (v := 24) hx hb dX9_four_0 (by decide) ?_
  refine lv_istore_n (lv' := [(2, .int 24), (0, .ref (am 0)), (1, .int p1)]) hx hb dX9_four_2 rfl hl (by decide) rfl (fun ls hl => ?_)
  refine lv_iload_n hx hb dX9_four_3 rfl (lv_at hl 0 rfl) ?_
  refine lv_if_lt (tgt := 36) hx hb dX9_four_4 (by decide) (fun c => absurd c (by decide)) (fun _ => ?_)
  refine lv_aload_n hx hb dX9_four_7 rfl (lv_at hl 1 rfl) ?_
  refine va_get (D := (dC, dI)) (ci := 9) (v := .ref (am 5)) (C := RX9) (T := TX9) (N := 60) hx hb hts hi9 hown hK hP 0 rfl rfl 5 (by decide) hk0 (fun _ h9 => h9) rfl dX9_four_8 ?_
  refine lv_aload_n hx hb dX9_four_11 rfl (lv_at hl 1 rfl) ?_
  refine va_get (D := (dC, dI)) (ci := 9) (v := .int 16) (C := RX9) (T := TX9) (N := 60) hx hb hts hi9 hown hK hP 0 rfl rfl 6 (by decide) hk1 (fun _ h9 => h9) rfl dX9_four_12 ?_
  refine lv_iload_n hx hb dX9_four_15 rfl (lv_at hl 2 rfl) ?_
  refine lv_iload_n hx hb dX9_four_16 rfl (lv_at hl 0 rfl) ?_
  refine lv_ishr hx hb dX9_four_17 ?_
  refine lv_i2b hx hb dX9_four_18 rfl ?_
  refine va_bast hx hb hK hP hD hS 1 0 rfl rfl (z_in (a := 16) (by decide) (by decide) (by decide)) dX9_four_19 (fun H locs hP hD hS => ?_)
  have hP : va_P (dC, dI) vwCl [(am 0, .inr (9, ((mf0 am).set 6 (.int 16)))), (am 5, .inl (cB, 600, .inl (upd g0 (Int32.toNatClampNeg 16) (vp_nar .byte ((p1 >>> (24 &&& 31)).toInt8.toInt32)))))] H := hP
  have hD : va_D A [(am 0, .inr (9, ((mf0 am).set 6 (.int 16)))), (am 5, .inl (cB, 600, .inl (upd g0 (Int32.toNatClampNeg 16) (vp_nar .byte ((p1 >>> (24 &&& 31)).toInt8.toInt32)))))] := hD
  refine lv_aload_n hx hb dX9_four_20 rfl (lv_at hl 1 rfl) ?_
  refine lv_dup hx hb dX9_four_21 rfl ?_
  refine va_get (D := (dC, dI)) (ci := 9) (v := .int 16) (C := RX9) (T := TX9) (N := 60) hx hb hts hi9 hown hK hP 0 rfl rfl 6 (by decide) hk1 (fun _ h9 => h9) rfl dX9_four_22 ?_
  refine lv_iconst (v := 1) hx hb dX9_four_25 (by decide) ?_
  refine lv_iadd hx hb dX9_four_26 ?_
  refine z_topi (y := 17) (by decide +kernel) ?_
  refine va_put (D := (dC, dI)) (ci := 9) (v := .int 17) (ty := .int) (C := RX9) (T := TX9) (N := 60) hx hb hts hi9 tyX9 tyX9_ok nmX9 hown hK hP hD hS 0 rfl rfl 6 (by decide) hk1 (fun _ h9 => h9) rfl (by decide +kernel) rfl rfl (Nat.le_of_ble_eq_true rfl) dX9_four_27 (fun H locs hP hD hS => ?_)
  have hP : va_P (dC, dI) vwCl [(am 0, .inr (9, ((mf0 am).set 6 (.int 17)))), (am 5, .inl (cB, 600, .inl (upd g0 (Int32.toNatClampNeg 16) (vp_nar .byte ((p1 >>> (24 &&& 31)).toInt8.toInt32)))))] H := hP
  have hD : va_D A [(am 0, .inr (9, ((mf0 am).set 6 (.int 17)))), (am 5, .inl (cB, 600, .inl (upd g0 (Int32.toNatClampNeg 16) (vp_nar .byte ((p1 >>> (24 &&& 31)).toInt8.toInt32)))))] := hD
  refine lv_iinc (v := 16) (lv' := [(2, .int 16), (0, .ref (am 0)), (1, .int p1)]) hx hb dX9_four_30 hl (k := 0) rfl (by decide) (by decide) rfl (fun ls hl => ?_)
  refine lv_goto (tgt := 3) hx hb dX9_four_33 (by decide) ?_
  refine lv_iload_n hx hb dX9_four_3 rfl (lv_at hl 0 rfl) ?_
  refine lv_if_lt (tgt := 36) hx hb dX9_four_4 (by decide) (fun c => absurd c (by decide)) (fun _ => ?_)
  refine lv_aload_n hx hb dX9_four_7 rfl (lv_at hl 1 rfl) ?_
  refine va_get (D := (dC, dI)) (ci := 9) (v := .ref (am 5)) (C := RX9) (T := TX9) (N := 60) hx hb hts hi9 hown hK hP 0 rfl rfl 5 (by decide) hk0 (fun _ h9 => h9) rfl dX9_four_8 ?_
  refine lv_aload_n hx hb dX9_four_11 rfl (lv_at hl 1 rfl) ?_
  refine va_get (D := (dC, dI)) (ci := 9) (v := .int 17) (C := RX9) (T := TX9) (N := 60) hx hb hts hi9 hown hK hP 0 rfl rfl 6 (by decide) hk1 (fun _ h9 => h9) rfl dX9_four_12 ?_
  refine lv_iload_n hx hb dX9_four_15 rfl (lv_at hl 2 rfl) ?_
  refine lv_iload_n hx hb dX9_four_16 rfl (lv_at hl 0 rfl) ?_
  refine lv_ishr hx hb dX9_four_17 ?_
  refine lv_i2b hx hb dX9_four_18 rfl ?_
  refine va_bast hx hb hK hP hD hS 1 0 rfl rfl (z_in (a := 17) (by decide) (by decide) (by decide)) dX9_four_19 (fun H locs hP hD hS => ?_)
  have hP : va_P (dC, dI) vwCl [(am 0, .inr (9, ((mf0 am).set 6 (.int 17)))), (am 5, .inl (cB, 600, .inl (upd (upd g0 (Int32.toNatClampNeg 16) (vp_nar .byte ((p1 >>> (24 &&& 31)).toInt8.toInt32))) (Int32.toNatClampNeg 17) (vp_nar .byte ((p1 >>> (16 &&& 31)).toInt8.toInt32)))))] H := hP
  have hD : va_D A [(am 0, .inr (9, ((mf0 am).set 6 (.int 17)))), (am 5, .inl (cB, 600, .inl (upd (upd g0 (Int32.toNatClampNeg 16) (vp_nar .byte ((p1 >>> (24 &&& 31)).toInt8.toInt32))) (Int32.toNatClampNeg 17) (vp_nar .byte ((p1 >>> (16 &&& 31)).toInt8.toInt32)))))] := hD
  refine lv_aload_n hx hb dX9_four_20 rfl (lv_at hl 1 rfl) ?_
  refine lv_dup hx hb dX9_four_21 rfl ?_
  refine va_get (D := (dC, dI)) (ci := 9) (v := .int 17) (C := RX9) (T := TX9) (N := 60) hx hb hts hi9 hown hK hP 0 rfl rfl 6 (by decide) hk1 (fun _ h9 => h9) rfl dX9_four_22 ?_
  refine lv_iconst (v := 1) hx hb dX9_four_25 (by decide) ?_
  refine lv_iadd hx hb dX9_four_26 ?_
  refine z_topi (y := 18) (by decide +kernel) ?_
  refine va_put (D := (dC, dI)) (ci := 9) (v := .int 18) (ty := .int) (C := RX9) (T := TX9) (N := 60) hx hb hts hi9 tyX9 tyX9_ok nmX9 hown hK hP hD hS 0 rfl rfl 6 (by decide) hk1 (fun _ h9 => h9) rfl (by decide +kernel) rfl rfl (Nat.le_of_ble_eq_true rfl) dX9_four_27 (fun H locs hP hD hS => ?_)
  have hP : va_P (dC, dI) vwCl [(am 0, .inr (9, ((mf0 am).set 6 (.int 18)))), (am 5, .inl (cB, 600, .inl (upd (upd g0 (Int32.toNatClampNeg 16) (vp_nar .byte ((p1 >>> (24 &&& 31)).toInt8.toInt32))) (Int32.toNatClampNeg 17) (vp_nar .byte ((p1 >>> (16 &&& 31)).toInt8.toInt32)))))] H := hP
  have hD : va_D A [(am 0, .inr (9, ((mf0 am).set 6 (.int 18)))), (am 5, .inl (cB, 600, .inl (upd (upd g0 (Int32.toNatClampNeg 16) (vp_nar .byte ((p1 >>> (24 &&& 31)).toInt8.toInt32))) (Int32.toNatClampNeg 17) (vp_nar .byte ((p1 >>> (16 &&& 31)).toInt8.toInt32)))))] := hD
  refine lv_iinc (v := 8) (lv' := [(2, .int 8), (0, .ref (am 0)), (1, .int p1)]) hx hb dX9_four_30 hl (k := 0) rfl (by decide) (by decide) rfl (fun ls hl => ?_)
  refine lv_goto (tgt := 3) hx hb dX9_four_33 (by decide) ?_
  refine lv_iload_n hx hb dX9_four_3 rfl (lv_at hl 0 rfl) ?_
  refine lv_if_lt (tgt := 36) hx hb dX9_four_4 (by decide) (fun c => absurd c (by decide)) (fun _ => ?_)
  refine lv_aload_n hx hb dX9_four_7 rfl (lv_at hl 1 rfl) ?_
  refine va_get (D := (dC, dI)) (ci := 9) (v := .ref (am 5)) (C := RX9) (T := TX9) (N := 60) hx hb hts hi9 hown hK hP 0 rfl rfl 5 (by decide) hk0 (fun _ h9 => h9) rfl dX9_four_8 ?_
  refine lv_aload_n hx hb dX9_four_11 rfl (lv_at hl 1 rfl) ?_
  refine va_get (D := (dC, dI)) (ci := 9) (v := .int 18) (C := RX9) (T := TX9) (N := 60) hx hb hts hi9 hown hK hP 0 rfl rfl 6 (by decide) hk1 (fun _ h9 => h9) rfl dX9_four_12 ?_
  refine lv_iload_n hx hb dX9_four_15 rfl (lv_at hl 2 rfl) ?_
  refine lv_iload_n hx hb dX9_four_16 rfl (lv_at hl 0 rfl) ?_
  refine lv_ishr hx hb dX9_four_17 ?_
  refine lv_i2b hx hb dX9_four_18 rfl ?_
  refine va_bast hx hb hK hP hD hS 1 0 rfl rfl (z_in (a := 18) (by decide) (by decide) (by decide)) dX9_four_19 (fun H locs hP hD hS => ?_)
  have hP : va_P (dC, dI) vwCl [(am 0, .inr (9, ((mf0 am).set 6 (.int 18)))), (am 5, .inl (cB, 600, .inl (upd (upd (upd g0 (Int32.toNatClampNeg 16) (vp_nar .byte ((p1 >>> (24 &&& 31)).toInt8.toInt32))) (Int32.toNatClampNeg 17) (vp_nar .byte ((p1 >>> (16 &&& 31)).toInt8.toInt32))) (Int32.toNatClampNeg 18) (vp_nar .byte ((p1 >>> (8 &&& 31)).toInt8.toInt32)))))] H := hP
  have hD : va_D A [(am 0, .inr (9, ((mf0 am).set 6 (.int 18)))), (am 5, .inl (cB, 600, .inl (upd (upd (upd g0 (Int32.toNatClampNeg 16) (vp_nar .byte ((p1 >>> (24 &&& 31)).toInt8.toInt32))) (Int32.toNatClampNeg 17) (vp_nar .byte ((p1 >>> (16 &&& 31)).toInt8.toInt32))) (Int32.toNatClampNeg 18) (vp_nar .byte ((p1 >>> (8 &&& 31)).toInt8.toInt32)))))] := hD
  refine lv_aload_n hx hb dX9_four_20 rfl (lv_at hl 1 rfl) ?_
  refine lv_dup hx hb dX9_four_21 rfl ?_
  refine va_get (D := (dC, dI)) (ci := 9) (v := .int 18) (C := RX9) (T := TX9) (N := 60) hx hb hts hi9 hown hK hP 0 rfl rfl 6 (by decide) hk1 (fun _ h9 => h9) rfl dX9_four_22 ?_
  refine lv_iconst (v := 1) hx hb dX9_four_25 (by decide) ?_
  refine lv_iadd hx hb dX9_four_26 ?_
  refine z_topi (y := 19) (by decide +kernel) ?_
  refine va_put (D := (dC, dI)) (ci := 9) (v := .int 19) (ty := .int) (C := RX9) (T := TX9) (N := 60) hx hb hts hi9 tyX9 tyX9_ok nmX9 hown hK hP hD hS 0 rfl rfl 6 (by decide) hk1 (fun _ h9 => h9) rfl (by decide +kernel) rfl rfl (Nat.le_of_ble_eq_true rfl) dX9_four_27 (fun H locs hP hD hS => ?_)
  have hP : va_P (dC, dI) vwCl [(am 0, .inr (9, ((mf0 am).set 6 (.int 19)))), (am 5, .inl (cB, 600, .inl (upd (upd (upd g0 (Int32.toNatClampNeg 16) (vp_nar .byte ((p1 >>> (24 &&& 31)).toInt8.toInt32))) (Int32.toNatClampNeg 17) (vp_nar .byte ((p1 >>> (16 &&& 31)).toInt8.toInt32))) (Int32.toNatClampNeg 18) (vp_nar .byte ((p1 >>> (8 &&& 31)).toInt8.toInt32)))))] H := hP
  have hD : va_D A [(am 0, .inr (9, ((mf0 am).set 6 (.int 19)))), (am 5, .inl (cB, 600, .inl (upd (upd (upd g0 (Int32.toNatClampNeg 16) (vp_nar .byte ((p1 >>> (24 &&& 31)).toInt8.toInt32))) (Int32.toNatClampNeg 17) (vp_nar .byte ((p1 >>> (16 &&& 31)).toInt8.toInt32))) (Int32.toNatClampNeg 18) (vp_nar .byte ((p1 >>> (8 &&& 31)).toInt8.toInt32)))))] := hD
  refine lv_iinc (v := 0) (lv' := [(2, .int 0), (0, .ref (am 0)), (1, .int p1)]) hx hb dX9_four_30 hl (k := 0) rfl (by decide) (by decide) rfl (fun ls hl => ?_)
  refine lv_goto (tgt := 3) hx hb dX9_four_33 (by decide) ?_
  refine lv_iload_n hx hb dX9_four_3 rfl (lv_at hl 0 rfl) ?_
  refine lv_if_lt (tgt := 36) hx hb dX9_four_4 (by decide) (fun c => absurd c (by decide)) (fun _ => ?_)
  refine lv_aload_n hx hb dX9_four_7 rfl (lv_at hl 1 rfl) ?_
  refine va_get (D := (dC, dI)) (ci := 9) (v := .ref (am 5)) (C := RX9) (T := TX9) (N := 60) hx hb hts hi9 hown hK hP 0 rfl rfl 5 (by decide) hk0 (fun _ h9 => h9) rfl dX9_four_8 ?_
  refine lv_aload_n hx hb dX9_four_11 rfl (lv_at hl 1 rfl) ?_
  refine va_get (D := (dC, dI)) (ci := 9) (v := .int 19) (C := RX9) (T := TX9) (N := 60) hx hb hts hi9 hown hK hP 0 rfl rfl 6 (by decide) hk1 (fun _ h9 => h9) rfl dX9_four_12 ?_
  refine lv_iload_n hx hb dX9_four_15 rfl (lv_at hl 2 rfl) ?_
  refine lv_iload_n hx hb dX9_four_16 rfl (lv_at hl 0 rfl) ?_
  refine lv_ishr hx hb dX9_four_17 ?_
  refine lv_i2b hx hb dX9_four_18 rfl ?_
  refine va_bast hx hb hK hP hD hS 1 0 rfl rfl (z_in (a := 19) (by decide) (by decide) (by decide)) dX9_four_19 (fun H locs hP hD hS => ?_)
  have hP : va_P (dC, dI) vwCl [(am 0, .inr (9, ((mf0 am).set 6 (.int 19)))), (am 5, .inl (cB, 600, .inl (upd (upd (upd (upd g0 (Int32.toNatClampNeg 16) (vp_nar .byte ((p1 >>> (24 &&& 31)).toInt8.toInt32))) (Int32.toNatClampNeg 17) (vp_nar .byte ((p1 >>> (16 &&& 31)).toInt8.toInt32))) (Int32.toNatClampNeg 18) (vp_nar .byte ((p1 >>> (8 &&& 31)).toInt8.toInt32))) (Int32.toNatClampNeg 19) (vp_nar .byte ((p1 >>> (0 &&& 31)).toInt8.toInt32)))))] H := hP
  have hD : va_D A [(am 0, .inr (9, ((mf0 am).set 6 (.int 19)))), (am 5, .inl (cB, 600, .inl (upd (upd (upd (upd g0 (Int32.toNatClampNeg 16) (vp_nar .byte ((p1 >>> (24 &&& 31)).toInt8.toInt32))) (Int32.toNatClampNeg 17) (vp_nar .byte ((p1 >>> (16 &&& 31)).toInt8.toInt32))) (Int32.toNatClampNeg 18) (vp_nar .byte ((p1 >>> (8 &&& 31)).toInt8.toInt32))) (Int32.toNatClampNeg 19) (vp_nar .byte ((p1 >>> (0 &&& 31)).toInt8.toInt32)))))] := hD
  refine lv_aload_n hx hb dX9_four_20 rfl (lv_at hl 1 rfl) ?_
  refine lv_dup hx hb dX9_four_21 rfl ?_
  refine va_get (D := (dC, dI)) (ci := 9) (v := .int 19) (C := RX9) (T := TX9) (N := 60) hx hb hts hi9 hown hK hP 0 rfl rfl 6 (by decide) hk1 (fun _ h9 => h9) rfl dX9_four_22 ?_
  refine lv_iconst (v := 1) hx hb dX9_four_25 (by decide) ?_
  refine lv_iadd hx hb dX9_four_26 ?_
  refine z_topi (y := 20) (by decide +kernel) ?_
  refine va_put (D := (dC, dI)) (ci := 9) (v := .int 20) (ty := .int) (C := RX9) (T := TX9) (N := 60) hx hb hts hi9 tyX9 tyX9_ok nmX9 hown hK hP hD hS 0 rfl rfl 6 (by decide) hk1 (fun _ h9 => h9) rfl (by decide +kernel) rfl rfl (Nat.le_of_ble_eq_true rfl) dX9_four_27 (fun H locs hP hD hS => ?_)
  have hP : va_P (dC, dI) vwCl [(am 0, .inr (9, ((mf0 am).set 6 (.int 20)))), (am 5, .inl (cB, 600, .inl (upd (upd (upd (upd g0 (Int32.toNatClampNeg 16) (vp_nar .byte ((p1 >>> (24 &&& 31)).toInt8.toInt32))) (Int32.toNatClampNeg 17) (vp_nar .byte ((p1 >>> (16 &&& 31)).toInt8.toInt32))) (Int32.toNatClampNeg 18) (vp_nar .byte ((p1 >>> (8 &&& 31)).toInt8.toInt32))) (Int32.toNatClampNeg 19) (vp_nar .byte ((p1 >>> (0 &&& 31)).toInt8.toInt32)))))] H := hP
  have hD : va_D A [(am 0, .inr (9, ((mf0 am).set 6 (.int 20)))), (am 5, .inl (cB, 600, .inl (upd (upd (upd (upd g0 (Int32.toNatClampNeg 16) (vp_nar .byte ((p1 >>> (24 &&& 31)).toInt8.toInt32))) (Int32.toNatClampNeg 17) (vp_nar .byte ((p1 >>> (16 &&& 31)).toInt8.toInt32))) (Int32.toNatClampNeg 18) (vp_nar .byte ((p1 >>> (8 &&& 31)).toInt8.toInt32))) (Int32.toNatClampNeg 19) (vp_nar .byte ((p1 >>> (0 &&& 31)).toInt8.toInt32)))))] := hD
  refine lv_iinc (v := (-8)) (lv' := [(2, .int (-8)), (0, .ref (am 0)), (1, .int p1)]) hx hb dX9_four_30 hl (k := 0) rfl (by decide) (by decide) rfl (fun ls hl => ?_)
  refine lv_goto (tgt := 3) hx hb dX9_four_33 (by decide) ?_
  refine lv_iload_n hx hb dX9_four_3 rfl (lv_at hl 0 rfl) ?_
  refine lv_if_lt (tgt := 36) hx hb dX9_four_4 (by decide) (fun _ => ?_) (fun c => absurd (by decide) c)
  exact z_vret () hx hb hr hlocks hK hP hD hS hAe hQ rfl trivial dX9_four_36
set_option maxHeartbeats 4000000 in
set_option maxRecDepth 100000 in
theorem c_X9_feed_150 (l : Launch) (dC : Nat → ClassId) (dI : Nat → Nat → Nat) (cB cI cJ cZ cP cQ : ClassId) (am : Nat → Nat) (sz : Nat) (p1 : Int32) (p2 : Int32) (p3 : Int32) (p4 : Int32) (p5 : Int32) : Met l yX9_feed wsX9_feed ({ frames := 1, cells := 0, slots := 0, locals := 22 } : Room) (zPc [.ref (am 0), .int p1, .int p2, .int p3, .int p4, .int p5] (dC, dI) (zT cB cI cJ cZ cP cQ) [(am 0, .inr (9, mf0 am)), (am 5, .inl (cB, 600, .inl (fun _ => 0)))] sz [] []) (va_Qi (fun r _ => (fun r => r = 20) r) (zB (dC, dI) (zT cB cI cJ cZ cP cQ) (fun _ : Unit => []) [(am 0, .inr (9, mf0 am)), (am 5, .inl (cB, 600, .inl (fun _ => 0)))] sz) (va_A [(am 0, .inr (9, mf0 am)), (am 5, .inl (cB, 600, .inl (fun _ => 0)))] sz)) 0 0 (va_A [(am 0, .inr (9, mf0 am)), (am 5, .inl (cB, 600, .inl (fun _ => 0)))] sz) := by
  refine z_enter (cc := cX9_feed) (maxL := 6) (ret := (some .int)) (by decide) rfl (Nat.le_of_ble_eq_true rfl) ?_
  intro p e s m below meth c A ls Q H locs hx hb hr hml hown hts hlocks hin hK hP hD hA hX hS hAe hQ hl
  have hown : s.vm.findClass RX9 = some m.cls := hown
  have hi9 : ∀ w ∈ wsX90, w ∈ wsX9_feed := fun w h => List.mem_cons_of_mem _ (List.mem_append_right _ h)
  have hk0 := hts (.fieldLink RX9 125 "MonthPushModel" "thrown" "I") (by decide +kernel)
  have hk1 := hts (.fieldLink RX9 142 "MonthPushModel" "taped" "I") (by decide +kernel)
  have hl : lv_has ls 6 [(0, .ref (am 0)), (1, .int p1), (2, .int p2), (3, .int p3), (4, .int p4), (5, .int p5)] := hl
  refine lv_aload_n hx hb dX9_feed_0 rfl (lv_at hl 0 rfl) ?_
  refine lv_iconst (v := 0) hx hb dX9_feed_1 (by decide) ?_
  refine z_put0 (D := (dC, dI)) (ci := 9) (v := .int 0) (ty := .int) (C := RX9) (T := TX9) (N := 60) hx hb hts hi9 tyX9 tyX9_ok nmX9 hown hK hP hD hS 0 rfl rfl 0 (by decide) hk0 (fun _ h9 => h9) rfl (by decide +kernel) rfl rfl rfl dX9_feed_2 (fun H locs hP hS => ?_)
  refine lv_aload_n hx hb dX9_feed_5 rfl (lv_at hl 0 rfl) ?_
  refine va_get (D := (dC, dI)) (ci := 9) (v := .int 0) (C := RX9) (T := TX9) (N := 60) hx hb hts hi9 hown hK hP 0 rfl rfl 6 (by decide) hk1 (fun _ h9 => h9) rfl dX9_feed_6 ?_
  refine lv_bipush (v := 20) hx hb dX9_feed_9 (by decide) ?_
  refine lv_iadd hx hb dX9_feed_11 ?_
  refine z_topi (y := 20) (by decide +kernel) ?_
  refine lv_sipush (v := 600) hx hb dX9_feed_12 (by decide) ?_
  refine lv_icmp_le (tgt := 20) hx hb dX9_feed_15 (by decide) (fun _ => ?_) (fun c => absurd (by decide) c)
  refine lv_aload_n hx hb dX9_feed_20 rfl (lv_at hl 0 rfl) ?_
  refine lv_iload_n hx hb dX9_feed_21 rfl (lv_at hl 1 rfl) ?_
  refine z_finv (w' := fun (u1 : Unit) => [(am 0, .inr (9, ((mf0 am).set 6 (.int 4)))), (am 5, .inl (cB, 600, .inl (upd (upd (upd (upd (fun _ => 0) (Int32.toNatClampNeg 0) (vp_nar .byte ((p1 >>> (24 &&& 31)).toInt8.toInt32))) (Int32.toNatClampNeg 1) (vp_nar .byte ((p1 >>> (16 &&& 31)).toInt8.toInt32))) (Int32.toNatClampNeg 2) (vp_nar .byte ((p1 >>> (8 &&& 31)).toInt8.toInt32))) (Int32.toNatClampNeg 3) (vp_nar .byte ((p1 >>> (0 &&& 31)).toInt8.toInt32)))))]) (va_runV (As := [.int p1]) (rest := []) ⟨hx, hb, hml, hown, hts⟩ (c_X9_four_146 l dC dI cB cI cJ cZ cP cQ am H.size p1) (cwV 1 hts gX9_feed_X9_four rfl rfl rfl (by decide +kernel) ⟨Nat.le_of_ble_eq_true rfl, Nat.le_of_ble_eq_true rfl⟩) (z_pV (ci := 9) hK hP hD zX_nil [0, 1] (by decide) rfl rfl 0 rfl) rfl rfl hl.1 rfl (lv_room (Nat.le_of_ble_eq_true rfl)) dX9_feed_22 ⟨Nat.le_of_ble_eq_true rfl, Nat.le_of_ble_eq_true rfl⟩) hP hD hS hA [0, 1] [] [0, 1] rfl rfl (by decide) (by decide) (fun _ => rfl) (by decide) (fun u1 H locs hp3 hP hD hS => ?_)
  have hP : va_P (dC, dI) vwCl [(am 0, .inr (9, ((mf0 am).set 6 (.int 4)))), (am 5, .inl (cB, 600, .inl (upd (upd (upd (upd (fun _ => 0) (Int32.toNatClampNeg 0) (vp_nar .byte ((p1 >>> (24 &&& 31)).toInt8.toInt32))) (Int32.toNatClampNeg 1) (vp_nar .byte ((p1 >>> (16 &&& 31)).toInt8.toInt32))) (Int32.toNatClampNeg 2) (vp_nar .byte ((p1 >>> (8 &&& 31)).toInt8.toInt32))) (Int32.toNatClampNeg 3) (vp_nar .byte ((p1 >>> (0 &&& 31)).toInt8.toInt32)))))] H := hP
  have hD : va_D A [(am 0, .inr (9, ((mf0 am).set 6 (.int 4)))), (am 5, .inl (cB, 600, .inl (upd (upd (upd (upd (fun _ => 0) (Int32.toNatClampNeg 0) (vp_nar .byte ((p1 >>> (24 &&& 31)).toInt8.toInt32))) (Int32.toNatClampNeg 1) (vp_nar .byte ((p1 >>> (16 &&& 31)).toInt8.toInt32))) (Int32.toNatClampNeg 2) (vp_nar .byte ((p1 >>> (8 &&& 31)).toInt8.toInt32))) (Int32.toNatClampNeg 3) (vp_nar .byte ((p1 >>> (0 &&& 31)).toInt8.toInt32)))))] := hD
  obtain ⟨gg4, hgg4⟩ : ∃ g : Nat → Int32, g = upd (upd (upd (upd (fun _ => 0) (Int32.toNatClampNeg 0) (vp_nar .byte ((p1 >>> (24 &&& 31)).toInt8.toInt32))) (Int32.toNatClampNeg 1) (vp_nar .byte ((p1 >>> (16 &&& 31)).toInt8.toInt32))) (Int32.toNatClampNeg 2) (vp_nar .byte ((p1 >>> (8 &&& 31)).toInt8.toInt32))) (Int32.toNatClampNeg 3) (vp_nar .byte ((p1 >>> (0 &&& 31)).toInt8.toInt32)) := ⟨_, rfl⟩
  rw [← hgg4] at hP hD
  refine W.widen (k := 0) (n := 0) (by decide) (by decide) ?_
  refine lv_aload_n hx hb dX9_feed_25 rfl (lv_at hl 0 rfl) ?_
  refine lv_iload_n hx hb dX9_feed_26 rfl (lv_at hl 2 rfl) ?_
  refine z_finv (w' := fun (u5 : Unit) => [(am 0, .inr (9, ((mf0 am).set 6 (.int 8)))), (am 5, .inl (cB, 600, .inl (upd (upd (upd (upd gg4 (Int32.toNatClampNeg 4) (vp_nar .byte ((p2 >>> (24 &&& 31)).toInt8.toInt32))) (Int32.toNatClampNeg 5) (vp_nar .byte ((p2 >>> (16 &&& 31)).toInt8.toInt32))) (Int32.toNatClampNeg 6) (vp_nar .byte ((p2 >>> (8 &&& 31)).toInt8.toInt32))) (Int32.toNatClampNeg 7) (vp_nar .byte ((p2 >>> (0 &&& 31)).toInt8.toInt32)))))]) (va_runV (As := [.int p2]) (rest := []) ⟨hx, hb, hml, hown, hts⟩ (c_X9_four_147 l dC dI cB cI cJ cZ cP cQ am H.size p2 gg4) (cwV 1 hts gX9_feed_X9_four rfl rfl rfl (by decide +kernel) ⟨Nat.le_of_ble_eq_true rfl, Nat.le_of_ble_eq_true rfl⟩) (z_pV (ci := 9) hK hP hD zX_nil [0, 1] (by decide) rfl rfl 0 rfl) rfl rfl hl.1 rfl (lv_room (Nat.le_of_ble_eq_true rfl)) dX9_feed_27 ⟨Nat.le_of_ble_eq_true rfl, Nat.le_of_ble_eq_true rfl⟩) hP hD hS hA [0, 1] [] [0, 1] rfl rfl (by decide) (by decide) (fun _ => rfl) (by decide) (fun u5 H locs hp7 hP hD hS => ?_)
  have hP : va_P (dC, dI) vwCl [(am 0, .inr (9, ((mf0 am).set 6 (.int 8)))), (am 5, .inl (cB, 600, .inl (upd (upd (upd (upd gg4 (Int32.toNatClampNeg 4) (vp_nar .byte ((p2 >>> (24 &&& 31)).toInt8.toInt32))) (Int32.toNatClampNeg 5) (vp_nar .byte ((p2 >>> (16 &&& 31)).toInt8.toInt32))) (Int32.toNatClampNeg 6) (vp_nar .byte ((p2 >>> (8 &&& 31)).toInt8.toInt32))) (Int32.toNatClampNeg 7) (vp_nar .byte ((p2 >>> (0 &&& 31)).toInt8.toInt32)))))] H := hP
  have hD : va_D A [(am 0, .inr (9, ((mf0 am).set 6 (.int 8)))), (am 5, .inl (cB, 600, .inl (upd (upd (upd (upd gg4 (Int32.toNatClampNeg 4) (vp_nar .byte ((p2 >>> (24 &&& 31)).toInt8.toInt32))) (Int32.toNatClampNeg 5) (vp_nar .byte ((p2 >>> (16 &&& 31)).toInt8.toInt32))) (Int32.toNatClampNeg 6) (vp_nar .byte ((p2 >>> (8 &&& 31)).toInt8.toInt32))) (Int32.toNatClampNeg 7) (vp_nar .byte ((p2 >>> (0 &&& 31)).toInt8.toInt32)))))] := hD
  obtain ⟨gg8, hgg8⟩ : ∃ g : Nat → Int32, g = upd (upd (upd (upd gg4 (Int32.toNatClampNeg 4) (vp_nar .byte ((p2 >>> (24 &&& 31)).toInt8.toInt32))) (Int32.toNatClampNeg 5) (vp_nar .byte ((p2 >>> (16 &&& 31)).toInt8.toInt32))) (Int32.toNatClampNeg 6) (vp_nar .byte ((p2 >>> (8 &&& 31)).toInt8.toInt32))) (Int32.toNatClampNeg 7) (vp_nar .byte ((p2 >>> (0 &&& 31)).toInt8.toInt32)) := ⟨_, rfl⟩
  rw [← hgg8] at hP hD
  refine W.widen (k := 0) (n := 0) (by decide) (by decide) ?_
  refine lv_aload_n hx hb dX9_feed_30 rfl (lv_at hl 0 rfl) ?_
  refine lv_iload_n hx hb dX9_feed_31 rfl (lv_at hl 3 rfl) ?_
  refine z_finv (w' := fun (u9 : Unit) => [(am 0, .inr (9, ((mf0 am).set 6 (.int 12)))), (am 5, .inl (cB, 600, .inl (upd (upd (upd (upd gg8 (Int32.toNatClampNeg 8) (vp_nar .byte ((p3 >>> (24 &&& 31)).toInt8.toInt32))) (Int32.toNatClampNeg 9) (vp_nar .byte ((p3 >>> (16 &&& 31)).toInt8.toInt32))) (Int32.toNatClampNeg 10) (vp_nar .byte ((p3 >>> (8 &&& 31)).toInt8.toInt32))) (Int32.toNatClampNeg 11) (vp_nar .byte ((p3 >>> (0 &&& 31)).toInt8.toInt32)))))]) (va_runV (As := [.int p3]) (rest := []) ⟨hx, hb, hml, hown, hts⟩ (c_X9_four_148 l dC dI cB cI cJ cZ cP cQ am H.size p3 gg8) (cwV 1 hts gX9_feed_X9_four rfl rfl rfl (by decide +kernel) ⟨Nat.le_of_ble_eq_true rfl, Nat.le_of_ble_eq_true rfl⟩) (z_pV (ci := 9) hK hP hD zX_nil [0, 1] (by decide) rfl rfl 0 rfl) rfl rfl hl.1 rfl (lv_room (Nat.le_of_ble_eq_true rfl)) dX9_feed_32 ⟨Nat.le_of_ble_eq_true rfl, Nat.le_of_ble_eq_true rfl⟩) hP hD hS hA [0, 1] [] [0, 1] rfl rfl (by decide) (by decide) (fun _ => rfl) (by decide) (fun u9 H locs hp11 hP hD hS => ?_)
  have hP : va_P (dC, dI) vwCl [(am 0, .inr (9, ((mf0 am).set 6 (.int 12)))), (am 5, .inl (cB, 600, .inl (upd (upd (upd (upd gg8 (Int32.toNatClampNeg 8) (vp_nar .byte ((p3 >>> (24 &&& 31)).toInt8.toInt32))) (Int32.toNatClampNeg 9) (vp_nar .byte ((p3 >>> (16 &&& 31)).toInt8.toInt32))) (Int32.toNatClampNeg 10) (vp_nar .byte ((p3 >>> (8 &&& 31)).toInt8.toInt32))) (Int32.toNatClampNeg 11) (vp_nar .byte ((p3 >>> (0 &&& 31)).toInt8.toInt32)))))] H := hP
  have hD : va_D A [(am 0, .inr (9, ((mf0 am).set 6 (.int 12)))), (am 5, .inl (cB, 600, .inl (upd (upd (upd (upd gg8 (Int32.toNatClampNeg 8) (vp_nar .byte ((p3 >>> (24 &&& 31)).toInt8.toInt32))) (Int32.toNatClampNeg 9) (vp_nar .byte ((p3 >>> (16 &&& 31)).toInt8.toInt32))) (Int32.toNatClampNeg 10) (vp_nar .byte ((p3 >>> (8 &&& 31)).toInt8.toInt32))) (Int32.toNatClampNeg 11) (vp_nar .byte ((p3 >>> (0 &&& 31)).toInt8.toInt32)))))] := hD
  obtain ⟨gg12, hgg12⟩ : ∃ g : Nat → Int32, g = upd (upd (upd (upd gg8 (Int32.toNatClampNeg 8) (vp_nar .byte ((p3 >>> (24 &&& 31)).toInt8.toInt32))) (Int32.toNatClampNeg 9) (vp_nar .byte ((p3 >>> (16 &&& 31)).toInt8.toInt32))) (Int32.toNatClampNeg 10) (vp_nar .byte ((p3 >>> (8 &&& 31)).toInt8.toInt32))) (Int32.toNatClampNeg 11) (vp_nar .byte ((p3 >>> (0 &&& 31)).toInt8.toInt32)) := ⟨_, rfl⟩
  rw [← hgg12] at hP hD
  refine W.widen (k := 0) (n := 0) (by decide) (by decide) ?_
  refine lv_aload_n hx hb dX9_feed_35 rfl (lv_at hl 0 rfl) ?_
  refine lv_iload hx hb dX9_feed_36 (lv_at hl 4 rfl) ?_
  refine z_finv (w' := fun (u13 : Unit) => [(am 0, .inr (9, ((mf0 am).set 6 (.int 16)))), (am 5, .inl (cB, 600, .inl (upd (upd (upd (upd gg12 (Int32.toNatClampNeg 12) (vp_nar .byte ((p4 >>> (24 &&& 31)).toInt8.toInt32))) (Int32.toNatClampNeg 13) (vp_nar .byte ((p4 >>> (16 &&& 31)).toInt8.toInt32))) (Int32.toNatClampNeg 14) (vp_nar .byte ((p4 >>> (8 &&& 31)).toInt8.toInt32))) (Int32.toNatClampNeg 15) (vp_nar .byte ((p4 >>> (0 &&& 31)).toInt8.toInt32)))))]) (va_runV (As := [.int p4]) (rest := []) ⟨hx, hb, hml, hown, hts⟩ (c_X9_four_149 l dC dI cB cI cJ cZ cP cQ am H.size p4 gg12) (cwV 1 hts gX9_feed_X9_four rfl rfl rfl (by decide +kernel) ⟨Nat.le_of_ble_eq_true rfl, Nat.le_of_ble_eq_true rfl⟩) (z_pV (ci := 9) hK hP hD zX_nil [0, 1] (by decide) rfl rfl 0 rfl) rfl rfl hl.1 rfl (lv_room (Nat.le_of_ble_eq_true rfl)) dX9_feed_38 ⟨Nat.le_of_ble_eq_true rfl, Nat.le_of_ble_eq_true rfl⟩) hP hD hS hA [0, 1] [] [0, 1] rfl rfl (by decide) (by decide) (fun _ => rfl) (by decide) (fun u13 H locs hp15 hP hD hS => ?_)
  have hP : va_P (dC, dI) vwCl [(am 0, .inr (9, ((mf0 am).set 6 (.int 16)))), (am 5, .inl (cB, 600, .inl (upd (upd (upd (upd gg12 (Int32.toNatClampNeg 12) (vp_nar .byte ((p4 >>> (24 &&& 31)).toInt8.toInt32))) (Int32.toNatClampNeg 13) (vp_nar .byte ((p4 >>> (16 &&& 31)).toInt8.toInt32))) (Int32.toNatClampNeg 14) (vp_nar .byte ((p4 >>> (8 &&& 31)).toInt8.toInt32))) (Int32.toNatClampNeg 15) (vp_nar .byte ((p4 >>> (0 &&& 31)).toInt8.toInt32)))))] H := hP
  have hD : va_D A [(am 0, .inr (9, ((mf0 am).set 6 (.int 16)))), (am 5, .inl (cB, 600, .inl (upd (upd (upd (upd gg12 (Int32.toNatClampNeg 12) (vp_nar .byte ((p4 >>> (24 &&& 31)).toInt8.toInt32))) (Int32.toNatClampNeg 13) (vp_nar .byte ((p4 >>> (16 &&& 31)).toInt8.toInt32))) (Int32.toNatClampNeg 14) (vp_nar .byte ((p4 >>> (8 &&& 31)).toInt8.toInt32))) (Int32.toNatClampNeg 15) (vp_nar .byte ((p4 >>> (0 &&& 31)).toInt8.toInt32)))))] := hD
  obtain ⟨gg16, hgg16⟩ : ∃ g : Nat → Int32, g = upd (upd (upd (upd gg12 (Int32.toNatClampNeg 12) (vp_nar .byte ((p4 >>> (24 &&& 31)).toInt8.toInt32))) (Int32.toNatClampNeg 13) (vp_nar .byte ((p4 >>> (16 &&& 31)).toInt8.toInt32))) (Int32.toNatClampNeg 14) (vp_nar .byte ((p4 >>> (8 &&& 31)).toInt8.toInt32))) (Int32.toNatClampNeg 15) (vp_nar .byte ((p4 >>> (0 &&& 31)).toInt8.toInt32)) := ⟨_, rfl⟩
  rw [← hgg16] at hP hD
  refine W.widen (k := 0) (n := 0) (by decide) (by decide) ?_
  refine lv_aload_n hx hb dX9_feed_41 rfl (lv_at hl 0 rfl) ?_
  refine lv_iload hx hb dX9_feed_42 (lv_at hl 5 rfl) ?_
  refine z_finv (w' := fun (u17 : Unit) => [(am 0, .inr (9, ((mf0 am).set 6 (.int 20)))), (am 5, .inl (cB, 600, .inl (upd (upd (upd (upd gg16 (Int32.toNatClampNeg 16) (vp_nar .byte ((p5 >>> (24 &&& 31)).toInt8.toInt32))) (Int32.toNatClampNeg 17) (vp_nar .byte ((p5 >>> (16 &&& 31)).toInt8.toInt32))) (Int32.toNatClampNeg 18) (vp_nar .byte ((p5 >>> (8 &&& 31)).toInt8.toInt32))) (Int32.toNatClampNeg 19) (vp_nar .byte ((p5 >>> (0 &&& 31)).toInt8.toInt32)))))]) (va_runV (As := [.int p5]) (rest := []) ⟨hx, hb, hml, hown, hts⟩ (c_X9_four_150 l dC dI cB cI cJ cZ cP cQ am H.size p5 gg16) (cwV 1 hts gX9_feed_X9_four rfl rfl rfl (by decide +kernel) ⟨Nat.le_of_ble_eq_true rfl, Nat.le_of_ble_eq_true rfl⟩) (z_pV (ci := 9) hK hP hD zX_nil [0, 1] (by decide) rfl rfl 0 rfl) rfl rfl hl.1 rfl (lv_room (Nat.le_of_ble_eq_true rfl)) dX9_feed_44 ⟨Nat.le_of_ble_eq_true rfl, Nat.le_of_ble_eq_true rfl⟩) hP hD hS hA [0, 1] [] [0, 1] rfl rfl (by decide) (by decide) (fun _ => rfl) (by decide) (fun u17 H locs hp19 hP hD hS => ?_)
  have hP : va_P (dC, dI) vwCl [(am 0, .inr (9, ((mf0 am).set 6 (.int 20)))), (am 5, .inl (cB, 600, .inl (upd (upd (upd (upd gg16 (Int32.toNatClampNeg 16) (vp_nar .byte ((p5 >>> (24 &&& 31)).toInt8.toInt32))) (Int32.toNatClampNeg 17) (vp_nar .byte ((p5 >>> (16 &&& 31)).toInt8.toInt32))) (Int32.toNatClampNeg 18) (vp_nar .byte ((p5 >>> (8 &&& 31)).toInt8.toInt32))) (Int32.toNatClampNeg 19) (vp_nar .byte ((p5 >>> (0 &&& 31)).toInt8.toInt32)))))] H := hP
  have hD : va_D A [(am 0, .inr (9, ((mf0 am).set 6 (.int 20)))), (am 5, .inl (cB, 600, .inl (upd (upd (upd (upd gg16 (Int32.toNatClampNeg 16) (vp_nar .byte ((p5 >>> (24 &&& 31)).toInt8.toInt32))) (Int32.toNatClampNeg 17) (vp_nar .byte ((p5 >>> (16 &&& 31)).toInt8.toInt32))) (Int32.toNatClampNeg 18) (vp_nar .byte ((p5 >>> (8 &&& 31)).toInt8.toInt32))) (Int32.toNatClampNeg 19) (vp_nar .byte ((p5 >>> (0 &&& 31)).toInt8.toInt32)))))] := hD
  obtain ⟨gg20, hgg20⟩ : ∃ g : Nat → Int32, g = upd (upd (upd (upd gg16 (Int32.toNatClampNeg 16) (vp_nar .byte ((p5 >>> (24 &&& 31)).toInt8.toInt32))) (Int32.toNatClampNeg 17) (vp_nar .byte ((p5 >>> (16 &&& 31)).toInt8.toInt32))) (Int32.toNatClampNeg 18) (vp_nar .byte ((p5 >>> (8 &&& 31)).toInt8.toInt32))) (Int32.toNatClampNeg 19) (vp_nar .byte ((p5 >>> (0 &&& 31)).toInt8.toInt32)) := ⟨_, rfl⟩
  rw [← hgg20] at hP hD
  refine W.widen (k := 0) (n := 0) (by decide) (by decide) ?_
  refine lv_aload_n hx hb dX9_feed_47 rfl (lv_at hl 0 rfl) ?_
  refine va_get (D := (dC, dI)) (ci := 9) (v := .int 20) (C := RX9) (T := TX9) (N := 60) hx hb hts hi9 hown hK hP 0 rfl rfl 6 (by decide) hk1 (fun _ h9 => h9) rfl dX9_feed_48 ?_
  have hP9 := hP.sub (ws' := []) [] rfl
  have hD9 := hD.sub (ws' := []) [] (by decide) rfl
  exact z_iret () hx hb hr hlocks hK hP9 hD9 hS hAe hQ rfl rfl dX9_feed_51
set_option maxHeartbeats 4000000 in
set_option maxRecDepth 100000 in
theorem c_X9_in_152 (l : Launch) (dC : Nat → ClassId) (dI : Nat → Nat → Nat) (cB cI cJ cZ cP cQ : ClassId) (sz : Nat) (p0 : Int32) : Met l yX9_in wsX9_in ({ frames := 0, cells := 0, slots := 0, locals := 0 } : Room) (zPc [.long p0.toInt64, .long 0, .long 0] (dC, dI) (zT cB cI cJ cZ cP cQ) [] sz [] []) (va_Qi (fun r _ => (fun r => (r = 0 ∧ p0.toInt < 0) ∨ (r = 0 ∧ 0 ≤ p0.toInt ∧ 0 < p0.toInt) ∨ (r = 1 ∧ 0 ≤ p0.toInt ∧ p0.toInt ≤ 0)) r) (zB (dC, dI) (zT cB cI cJ cZ cP cQ) (fun _ : Unit => []) [] sz) (va_A [] sz)) 0 0 (va_A [] sz) := by
  refine z_enter (cc := cX9_in) (maxL := 6) (ret := (some .boolean)) (by decide) rfl (Nat.le_of_ble_eq_true rfl) ?_
  intro p e s m below meth c A ls Q H locs hx hb hr hml hown hts hlocks hin hK hP hD hA hX hS hAe hQ hl
  have hown : s.vm.findClass RX9 = some m.cls := hown
  have hl : lv_has ls 6 [(0, .long p0.toInt64), (2, .long 0), (4, .long 0)] := hl
  refine lv_lload_n hx hb dX9_in_0 rfl (lv_at hl 0 rfl) ?_
  refine lv_lload_n hx hb dX9_in_1 rfl (lv_at hl 1 rfl) ?_
  refine W.lcmp hx hb dX9_in_2 ?_
  refine lv_if_lt (tgt := 17) hx hb dX9_in_3 (by decide) (fun c_1 => ?_) (fun c_1 => ?_)
  · have f2 : p0.toInt < 0 := z_llt (z_i2l p0) (by decide) c_1
    refine lv_iconst (v := 0) hx hb dX9_in_17 (by decide) ?_
    exact z_zret () hx hb hr hlocks hK hP hD hS hAe hQ rfl (Or.inl (⟨rfl, f2⟩)) (by decide) dX9_in_18
  · have f2 : 0 ≤ p0.toInt := z_lnlt (z_i2l p0) (by decide) c_1
    refine lv_lload_n hx hb dX9_in_6 rfl (lv_at hl 0 rfl) ?_
    refine lv_lload hx hb dX9_in_7 (lv_at hl 2 rfl) ?_
    refine W.lcmp hx hb dX9_in_9 ?_
    refine lv_if_gt (tgt := 17) hx hb dX9_in_10 (by decide) (fun c_3 => ?_) (fun c_3 => ?_)
    · have f4 : 0 < p0.toInt := z_lgt (z_i2l p0) (by decide) c_3
      refine lv_iconst (v := 0) hx hb dX9_in_17 (by decide) ?_
      exact z_zret () hx hb hr hlocks hK hP hD hS hAe hQ rfl (Or.inr (Or.inl ⟨rfl, f2, f4⟩)) (by decide) dX9_in_18
    · have f4 : p0.toInt ≤ 0 := z_lngt (z_i2l p0) (by decide) c_3
      refine lv_iconst (v := 1) hx hb dX9_in_13 (by decide) ?_
      refine lv_goto (tgt := 18) hx hb dX9_in_14 (by decide) ?_
      exact z_zret () hx hb hr hlocks hK hP hD hS hAe hQ rfl (Or.inr (Or.inr ⟨rfl, f2, f4⟩)) (by decide) dX9_in_18
set_option maxHeartbeats 4000000 in
set_option maxRecDepth 100000 in
theorem c_X9_end_152 (l : Launch) (dC : Nat → ClassId) (dI : Nat → Nat → Nat) (cB cI cJ cZ cP cQ : ClassId) (am : Nat → Nat) (sz : Nat) (p1 : Int32) : Met l yX9_end wsX9_end ({ frames := 1, cells := 0, slots := 0, locals := 25 } : Room) (zPc [.ref (am 0), .int p1] (dC, dI) (zT cB cI cJ cZ cP cQ) [(am 0, .inr (9, mf0 am))] sz [] []) (va_Qi (fun r _ => (fun r => (r = (-1) ∧ p1.toInt < 0) ∨ (r = (-1) ∧ 0 ≤ p1.toInt ∧ 0 < p1.toInt) ∨ (r = p1 ∧ 0 ≤ p1.toInt ∧ p1.toInt ≤ 0)) r) (zB (dC, dI) (zT cB cI cJ cZ cP cQ) (fun _ : Unit => []) [(am 0, .inr (9, mf0 am))] sz) (va_A [(am 0, .inr (9, mf0 am))] sz)) 0 0 (va_A [(am 0, .inr (9, mf0 am))] sz) := by
  refine z_enter (cc := cX9_end) (maxL := 2) (ret := (some .int)) (by decide) rfl (Nat.le_of_ble_eq_true rfl) ?_
  intro p e s m below meth c A ls Q H locs hx hb hr hml hown hts hlocks hin hK hP hD hA hX hS hAe hQ hl
  have hown : s.vm.findClass RX9 = some m.cls := hown
  have hi9 : ∀ w ∈ wsX90, w ∈ wsX9_end := fun w h => List.mem_cons_of_mem _ (List.mem_append_right _ h)
  have hk0 := hts (.fieldLink RX9 125 "MonthPushModel" "thrown" "I") (by decide +kernel)
  have hk1 := hts (.fieldLink RX9 142 "MonthPushModel" "taped" "I") (by decide +kernel)
  have hl : lv_has ls 2 [(0, .ref (am 0)), (1, .int p1)] := hl
  refine lv_aload_n hx hb dX9_end_0 rfl (lv_at hl 0 rfl) ?_
  refine lv_iconst (v := 0) hx hb dX9_end_1 (by decide) ?_
  refine z_put0 (D := (dC, dI)) (ci := 9) (v := .int 0) (ty := .int) (C := RX9) (T := TX9) (N := 60) hx hb hts hi9 tyX9 tyX9_ok nmX9 hown hK hP hD hS 0 rfl rfl 0 (by decide) hk0 (fun _ h9 => h9) rfl (by decide +kernel) rfl rfl rfl dX9_end_2 (fun H locs hP hS => ?_)
  refine lv_iload_n hx hb dX9_end_5 rfl (lv_at hl 1 rfl) ?_
  refine lv_i2l hx hb dX9_end_6 rfl ?_
  refine lv_lconst (v := 0) hx hb dX9_end_7 (by decide) ?_
  refine lv_aload_n hx hb dX9_end_8 rfl (lv_at hl 0 rfl) ?_
  refine va_get (D := (dC, dI)) (ci := 9) (v := .int 0) (C := RX9) (T := TX9) (N := 60) hx hb hts hi9 hown hK hP 0 rfl rfl 6 (by decide) hk1 (fun _ h9 => h9) rfl dX9_end_9 ?_
  refine lv_i2l (v := 0) hx hb dX9_end_12 (by decide) ?_
  refine z_fini (w' := fun (u1 : Unit) => [(am 0, .inr (9, mf0 am))]) (va_runS (As := [.long p1.toInt64, .long 0, .long 0]) (rest := []) ⟨hx, hb, hml, hown, hts⟩ (c_X9_in_152 l dC dI cB cI cJ cZ cP cQ H.size p1) (va_cwS 3 hts gX9_end_X9_in rfl rfl rfl (by decide +kernel) ⟨Nat.le_of_ble_eq_true rfl, Nat.le_of_ble_eq_true rfl⟩) (z_pS hK hP hD zX_nil [] (by decide) rfl) rfl rfl hl.1 rfl (lv_room (Nat.le_of_ble_eq_true rfl)) dX9_end_13 ⟨Nat.le_of_ble_eq_true rfl, Nat.le_of_ble_eq_true rfl⟩) hP hD hS hA [] [0] [0] rfl rfl (by decide) (by decide) (fun _ => rfl) (by decide) (fun r2 u1 H locs hp3 hP hD hS => ?_)
  have hP : va_P (dC, dI) vwCl [(am 0, .inr (9, mf0 am))] H := hP
  have hD : va_D A [(am 0, .inr (9, mf0 am))] := hD
  refine W.widen (k := 0) (n := 0) (by decide) (by decide) ?_
  rcases hp3 with ⟨rfl, f4⟩ | ⟨rfl, f5, f6⟩ | ⟨rfl, f7, f8⟩
  · refine lv_if_ne (tgt := 21) hx hb dX9_end_16 (by decide) (fun c => absurd (by decide) c) (fun _ => ?_)
    refine lv_iconst (v := (-1)) hx hb dX9_end_19 (by decide) ?_
    have hP9 := hP.sub (ws' := []) [] rfl
    have hD9 := hD.sub (ws' := []) [] (by decide) rfl
    exact z_iret () hx hb hr hlocks hK hP9 hD9 hS hAe hQ rfl (Or.inl (⟨rfl, f4⟩)) dX9_end_20
  · refine lv_if_ne (tgt := 21) hx hb dX9_end_16 (by decide) (fun c => absurd (by decide) c) (fun _ => ?_)
    refine lv_iconst (v := (-1)) hx hb dX9_end_19 (by decide) ?_
    have hP9 := hP.sub (ws' := []) [] rfl
    have hD9 := hD.sub (ws' := []) [] (by decide) rfl
    exact z_iret () hx hb hr hlocks hK hP9 hD9 hS hAe hQ rfl (Or.inr (Or.inl ⟨rfl, f5, f6⟩)) dX9_end_20
  · refine lv_if_ne (tgt := 21) hx hb dX9_end_16 (by decide) (fun _ => ?_) (fun c => absurd c (by decide))
    refine lv_aload_n hx hb dX9_end_21 rfl (lv_at hl 0 rfl) ?_
    refine lv_iload_n hx hb dX9_end_22 rfl (lv_at hl 1 rfl) ?_
    refine va_put (D := (dC, dI)) (ci := 9) (v := .int p1) (ty := .int) (C := RX9) (T := TX9) (N := 60) hx hb hts hi9 tyX9 tyX9_ok nmX9 hown hK hP hD hS 0 rfl rfl 6 (by decide) hk1 (fun _ h9 => h9) rfl (by decide +kernel) rfl rfl (Nat.le_of_ble_eq_true rfl) dX9_end_23 (fun H locs hP hD hS => ?_)
    have hP : va_P (dC, dI) vwCl [(am 0, .inr (9, ((mf0 am).set 6 (.int p1))))] H := hP
    have hD : va_D A [(am 0, .inr (9, ((mf0 am).set 6 (.int p1))))] := hD
    refine lv_iload_n hx hb dX9_end_26 rfl (lv_at hl 1 rfl) ?_
    have hP9 := hP.sub (ws' := []) [] rfl
    have hD9 := hD.sub (ws' := []) [] (by decide) rfl
    exact z_iret () hx hb hr hlocks hK hP9 hD9 hS hAe hQ rfl (Or.inr (Or.inr ⟨rfl, f7, f8⟩)) dX9_end_27
set_option maxHeartbeats 4000000 in
set_option maxRecDepth 100000 in
theorem c_X9_fault_153 (l : Launch) (dC : Nat → ClassId) (dI : Nat → Nat → Nat) (cB cI cJ cZ cP cQ : ClassId) (am : Nat → Nat) (sz : Nat) (p1 : Int32) : Met l yX9_fault wsX9_fault ({ frames := 0, cells := 0, slots := 0, locals := 0 } : Room) (zPc [.ref (am 0), .int p1] (dC, dI) (zT cB cI cJ cZ cP cQ) [(am 0, .inr (9, mf0 am))] sz [] []) (va_Qi (fun r _ => (fun r => (r = (-1) ∧ ¬ p1.toInt = 0 ∧ ¬ p1.toInt = 1) ∨ (r = (-1) ∧ ¬ p1.toInt = 0 ∧ p1.toInt = 1) ∨ (r = 0 ∧ p1.toInt = 0)) r) (zB (dC, dI) (zT cB cI cJ cZ cP cQ) (fun _ : Unit => []) [(am 0, .inr (9, mf0 am))] sz) (va_A [(am 0, .inr (9, mf0 am))] sz)) 0 0 (va_A [(am 0, .inr (9, mf0 am))] sz) := by
  refine z_enter (cc := cX9_fault) (maxL := 2) (ret := (some .int)) (by decide) rfl (Nat.le_of_ble_eq_true rfl) ?_
  intro p e s m below meth c A ls Q H locs hx hb hr hml hown hts hlocks hin hK hP hD hA hX hS hAe hQ hl
  have hown : s.vm.findClass RX9 = some m.cls := hown
  have hi9 : ∀ w ∈ wsX90, w ∈ wsX9_fault := fun w h => List.mem_cons_of_mem _ (List.mem_append_right _ h)
  have hk0 := hts (.fieldLink RX9 125 "MonthPushModel" "thrown" "I") (by decide +kernel)
  have hk1 := hts (.fieldLink RX9 27 "MonthPushModel" "faultPlace" "I") (by decide +kernel)
  have hk2 := hts (.fieldLink RX9 204 "MonthPushModel" "fault" "I") (by decide +kernel)
  have hl : lv_has ls 2 [(0, .ref (am 0)), (1, .int p1)] := hl
  refine lv_aload_n hx hb dX9_fault_0 rfl (lv_at hl 0 rfl) ?_
  refine lv_iconst (v := 0) hx hb dX9_fault_1 (by decide) ?_
  refine z_put0 (D := (dC, dI)) (ci := 9) (v := .int 0) (ty := .int) (C := RX9) (T := TX9) (N := 60) hx hb hts hi9 tyX9 tyX9_ok nmX9 hown hK hP hD hS 0 rfl rfl 0 (by decide) hk0 (fun _ h9 => h9) rfl (by decide +kernel) rfl rfl rfl dX9_fault_2 (fun H locs hP hS => ?_)
  refine lv_iload_n hx hb dX9_fault_5 rfl (lv_at hl 1 rfl) ?_
  refine lv_if_ne (tgt := 16) hx hb dX9_fault_6 (by decide) (fun c_1 => ?_) (fun c_1 => ?_)
  · have f2 : ¬ p1.toInt = 0 := z_ne rfl (by decide) c_1
    refine lv_iload_n hx hb dX9_fault_16 rfl (lv_at hl 1 rfl) ?_
    refine lv_iconst (v := 1) hx hb dX9_fault_17 (by decide) ?_
    refine lv_icmp_ne (tgt := 28) hx hb dX9_fault_18 (by decide) (fun c_3 => ?_) (fun c_3 => ?_)
    · have f4 : ¬ p1.toInt = 1 := z_ne rfl (by decide) c_3
      refine lv_iconst (v := (-1)) hx hb dX9_fault_28 (by decide) ?_
      have hP9 := hP.sub (ws' := []) [] rfl
      have hD9 := hD.sub (ws' := []) [] (by decide) rfl
      exact z_iret () hx hb hr hlocks hK hP9 hD9 hS hAe hQ rfl (Or.inl (⟨rfl, f2, f4⟩)) dX9_fault_29
    · have f4 : p1.toInt = 1 := z_eq rfl (by decide) c_3
      refine lv_aload_n hx hb dX9_fault_21 rfl (lv_at hl 0 rfl) ?_
      refine va_get (D := (dC, dI)) (ci := 9) (v := .int (-1)) (C := RX9) (T := TX9) (N := 60) hx hb hts hi9 hown hK hP 0 rfl rfl 15 (by decide) hk1 (fun _ h9 => h9) rfl dX9_fault_22 ?_
      refine lv_goto (tgt := 29) hx hb dX9_fault_25 (by decide) ?_
      have hP9 := hP.sub (ws' := []) [] rfl
      have hD9 := hD.sub (ws' := []) [] (by decide) rfl
      exact z_iret () hx hb hr hlocks hK hP9 hD9 hS hAe hQ rfl (Or.inr (Or.inl ⟨rfl, f2, f4⟩)) dX9_fault_29
  · have f2 : p1.toInt = 0 := z_eq rfl (by decide) c_1
    refine lv_aload_n hx hb dX9_fault_9 rfl (lv_at hl 0 rfl) ?_
    refine va_get (D := (dC, dI)) (ci := 9) (v := .int 0) (C := RX9) (T := TX9) (N := 60) hx hb hts hi9 hown hK hP 0 rfl rfl 14 (by decide) hk2 (fun _ h9 => h9) rfl dX9_fault_10 ?_
    refine lv_goto (tgt := 29) hx hb dX9_fault_13 (by decide) ?_
    have hP9 := hP.sub (ws' := []) [] rfl
    have hD9 := hD.sub (ws' := []) [] (by decide) rfl
    exact z_iret () hx hb hr hlocks hK hP9 hD9 hS hAe hQ rfl (Or.inr (Or.inr ⟨rfl, f2⟩)) dX9_fault_29
set_option maxHeartbeats 4000000 in
set_option maxRecDepth 100000 in
theorem c_X9_isByte_157 (l : Launch) (dC : Nat → ClassId) (dI : Nat → Nat → Nat) (cB cI cJ cZ cP cQ : ClassId) (am : Nat → Nat) (sz : Nat) : Met l yX9_isByte wsX9_isByte ({ frames := 0, cells := 0, slots := 0, locals := 0 } : Room) (zPc [.ref (am 0), .int 0, .int 32, .int 32] (dC, dI) (zT cB cI cJ cZ cP cQ) [(am 0, .inr (9, ((mf0 am).set 13 (.int (-1)))))] sz [] []) (va_Qi (fun r _ => (fun r => r = 0) r) (zB (dC, dI) (zT cB cI cJ cZ cP cQ) (fun _ : Unit => [(am 0, .inr (9, ((mf0 am).set 13 (.int (-1)))))]) [(am 0, .inr (9, ((mf0 am).set 13 (.int (-1)))))] sz) (va_A [(am 0, .inr (9, ((mf0 am).set 13 (.int (-1)))))] sz)) 0 0 (va_A [(am 0, .inr (9, ((mf0 am).set 13 (.int (-1)))))] sz) := by
  refine z_enter (cc := cX9_isByte) (maxL := 4) (ret := (some .boolean)) (by decide) rfl (Nat.le_of_ble_eq_true rfl) ?_
  intro p e s m below meth c A ls Q H locs hx hb hr hml hown hts hlocks hin hK hP hD hA hX hS hAe hQ hl
  have hown : s.vm.findClass RX9 = some m.cls := hown
  have hi9 : ∀ w ∈ wsX90, w ∈ wsX9_isByte := fun w h => List.mem_cons_of_mem _ (List.mem_append_right _ h)
  have hk0 := hts (.fieldLink RX9 142 "MonthPushModel" "taped" "I") (by decide +kernel)
  have hl : lv_has ls 4 [(0, .ref (am 0)), (1, .int 0), (2, .int 32), (3, .int 32)] := hl
  refine lv_iload_n hx hb dX9_isByte_0 rfl (lv_at hl 1 rfl) ?_
  refine lv_aload_n hx hb dX9_isByte_1 rfl (lv_at hl 0 rfl) ?_
  refine va_get (D := (dC, dI)) (ci := 9) (v := .int 0) (C := RX9) (T := TX9) (N := 60) hx hb hts hi9 hown hK hP 0 rfl rfl 6 (by decide) hk0 (fun _ h9 => h9) rfl dX9_isByte_2 ?_
  refine lv_icmp_ge (tgt := 32) hx hb dX9_isByte_5 (by decide) (fun _ => ?_) (fun c => absurd (by decide) c)
  refine lv_iconst (v := 0) hx hb dX9_isByte_32 (by decide) ?_
  exact z_zret () hx hb hr hlocks hK hP hD hS hAe hQ rfl rfl (by decide) dX9_isByte_33
set_option maxHeartbeats 4000000 in
set_option maxRecDepth 100000 in
theorem c_X9_isByte_158 (l : Launch) (dC : Nat → ClassId) (dI : Nat → Nat → Nat) (cB cI cJ cZ cP cQ : ClassId) (am : Nat → Nat) (sz : Nat) : Met l yX9_isByte wsX9_isByte ({ frames := 0, cells := 0, slots := 0, locals := 0 } : Room) (zPc [.ref (am 0), .int 0, .int 10, .int 10] (dC, dI) (zT cB cI cJ cZ cP cQ) [(am 0, .inr (9, ((mf0 am).set 13 (.int (-1)))))] sz [] []) (va_Qi (fun r _ => (fun r => r = 0) r) (zB (dC, dI) (zT cB cI cJ cZ cP cQ) (fun _ : Unit => [(am 0, .inr (9, ((mf0 am).set 13 (.int (-1)))))]) [(am 0, .inr (9, ((mf0 am).set 13 (.int (-1)))))] sz) (va_A [(am 0, .inr (9, ((mf0 am).set 13 (.int (-1)))))] sz)) 0 0 (va_A [(am 0, .inr (9, ((mf0 am).set 13 (.int (-1)))))] sz) := by
  refine z_enter (cc := cX9_isByte) (maxL := 4) (ret := (some .boolean)) (by decide) rfl (Nat.le_of_ble_eq_true rfl) ?_
  intro p e s m below meth c A ls Q H locs hx hb hr hml hown hts hlocks hin hK hP hD hA hX hS hAe hQ hl
  have hown : s.vm.findClass RX9 = some m.cls := hown
  have hi9 : ∀ w ∈ wsX90, w ∈ wsX9_isByte := fun w h => List.mem_cons_of_mem _ (List.mem_append_right _ h)
  have hk0 := hts (.fieldLink RX9 142 "MonthPushModel" "taped" "I") (by decide +kernel)
  have hl : lv_has ls 4 [(0, .ref (am 0)), (1, .int 0), (2, .int 10), (3, .int 10)] := hl
  refine lv_iload_n hx hb dX9_isByte_0 rfl (lv_at hl 1 rfl) ?_
  refine lv_aload_n hx hb dX9_isByte_1 rfl (lv_at hl 0 rfl) ?_
  refine va_get (D := (dC, dI)) (ci := 9) (v := .int 0) (C := RX9) (T := TX9) (N := 60) hx hb hts hi9 hown hK hP 0 rfl rfl 6 (by decide) hk0 (fun _ h9 => h9) rfl dX9_isByte_2 ?_
  refine lv_icmp_ge (tgt := 32) hx hb dX9_isByte_5 (by decide) (fun _ => ?_) (fun c => absurd (by decide) c)
  refine lv_iconst (v := 0) hx hb dX9_isByte_32 (by decide) ?_
  exact z_zret () hx hb hr hlocks hK hP hD hS hAe hQ rfl rfl (by decide) dX9_isByte_33
set_option maxHeartbeats 4000000 in
set_option maxRecDepth 100000 in
theorem c_X9_next_158 (l : Launch) (dC : Nat → ClassId) (dI : Nat → Nat → Nat) (cB cI cJ cZ cP cQ : ClassId) (am : Nat → Nat) (sz : Nat) : Met l yX9_next wsX9_next ({ frames := 1, cells := 0, slots := 0, locals := 23 } : Room) (zPc [.ref (am 0)] (dC, dI) (zT cB cI cJ cZ cP cQ) [(am 0, .inr (9, ((mf0 am).set 13 (.int (-1)))))] sz [] []) (va_Qv (fun _ => True) (zB (dC, dI) (zT cB cI cJ cZ cP cQ) (fun _ : Unit => [(am 0, .inr (9, ((mf0 am).set 13 (.int (-1)))))]) [(am 0, .inr (9, ((mf0 am).set 13 (.int (-1)))))] sz) (va_A [(am 0, .inr (9, ((mf0 am).set 13 (.int (-1)))))] sz)) 0 0 (va_A [(am 0, .inr (9, ((mf0 am).set 13 (.int (-1)))))] sz) := by
  refine z_enter (cc := cX9_next) (maxL := 2) (ret := none) (by decide) rfl (Nat.le_of_ble_eq_true rfl) ?_
  intro p e s m below meth c A ls Q H locs hx hb hr hml hown hts hlocks hin hK hP hD hA hX hS hAe hQ hl
  have hown : s.vm.findClass RX9 = some m.cls := hown
  have hi9 : ∀ w ∈ wsX90, w ∈ wsX9_next := fun w h => List.mem_cons_of_mem _ (List.mem_append_right _ h)
  have hk0 := hts (.fieldLink RX9 149 "MonthPushModel" "at" "I") (by decide +kernel)
  have hk1 := hts (.fieldLink RX9 156 "MonthPushModel" "place" "I") (by decide +kernel)
  have hk2 := hts (.fieldLink RX9 159 "MonthPushModel" "value" "I") (by decide +kernel)
  have hk3 := hts (.fieldLink RX9 162 "MonthPushModel" "word" "J") (by decide +kernel)
  have hk4 := hts (.fieldLink RX9 142 "MonthPushModel" "taped" "I") (by decide +kernel)
  have hk5 := hts (.fieldLink RX9 166 "MonthPushModel" "token" "I") (by decide +kernel)
  have hl : lv_has ls 2 [(0, .ref (am 0))] := hl
  refine lv_aload_n hx hb dX9_next_0 rfl (lv_at hl 0 rfl) ?_
  refine lv_aload_n hx hb dX9_next_1 rfl (lv_at hl 0 rfl) ?_
  refine va_get (D := (dC, dI)) (ci := 9) (v := .int 0) (C := RX9) (T := TX9) (N := 60) hx hb hts hi9 hown hK hP 0 rfl rfl 7 (by decide) hk0 (fun _ h9 => h9) rfl dX9_next_2 ?_
  refine lv_bipush (v := 32) hx hb dX9_next_5 (by decide) ?_
  refine lv_bipush (v := 32) hx hb dX9_next_7 (by decide) ?_
  refine z_fini (w' := fun (u1 : Unit) => [(am 0, .inr (9, ((mf0 am).set 13 (.int (-1)))))]) (va_runV (As := [.int 0, .int 32, .int 32]) (rest := []) ⟨hx, hb, hml, hown, hts⟩ (c_X9_isByte_157 l dC dI cB cI cJ cZ cP cQ am H.size) (cwV 3 hts gX9_next_X9_isByte rfl rfl rfl (by decide +kernel) ⟨Nat.le_of_ble_eq_true rfl, Nat.le_of_ble_eq_true rfl⟩) (z_pV (ci := 9) hK hP hD zX_nil [0] (by decide) rfl rfl 0 rfl) rfl rfl hl.1 rfl (lv_room (Nat.le_of_ble_eq_true rfl)) dX9_next_9 ⟨Nat.le_of_ble_eq_true rfl, Nat.le_of_ble_eq_true rfl⟩) hP hD hS hA [0] [] [0] rfl rfl (by decide) (by decide) (fun _ => rfl) (by decide) (fun r2 u1 H locs hp3 hP hD hS => ?_)
  have hP : va_P (dC, dI) vwCl [(am 0, .inr (9, ((mf0 am).set 13 (.int (-1)))))] H := hP
  have hD : va_D A [(am 0, .inr (9, ((mf0 am).set 13 (.int (-1)))))] := hD
  refine W.widen (k := 0) (n := 0) (by decide) (by decide) ?_
  obtain rfl : r2 = 0 := hp3
  refine lv_if_ne (tgt := 30) hx hb dX9_next_12 (by decide) (fun c => absurd (by decide) c) (fun _ => ?_)
  refine lv_aload_n hx hb dX9_next_15 rfl (lv_at hl 0 rfl) ?_
  refine lv_aload_n hx hb dX9_next_16 rfl (lv_at hl 0 rfl) ?_
  refine va_get (D := (dC, dI)) (ci := 9) (v := .int 0) (C := RX9) (T := TX9) (N := 60) hx hb hts hi9 hown hK hP 0 rfl rfl 7 (by decide) hk0 (fun _ h9 => h9) rfl dX9_next_17 ?_
  refine lv_bipush (v := 10) hx hb dX9_next_20 (by decide) ?_
  refine lv_bipush (v := 10) hx hb dX9_next_22 (by decide) ?_
  refine z_fini (w' := fun (u4 : Unit) => [(am 0, .inr (9, ((mf0 am).set 13 (.int (-1)))))]) (va_runV (As := [.int 0, .int 10, .int 10]) (rest := []) ⟨hx, hb, hml, hown, hts⟩ (c_X9_isByte_158 l dC dI cB cI cJ cZ cP cQ am H.size) (cwV 3 hts gX9_next_X9_isByte rfl rfl rfl (by decide +kernel) ⟨Nat.le_of_ble_eq_true rfl, Nat.le_of_ble_eq_true rfl⟩) (z_pV (ci := 9) hK hP hD zX_nil [0] (by decide) rfl rfl 0 rfl) rfl rfl hl.1 rfl (lv_room (Nat.le_of_ble_eq_true rfl)) dX9_next_24 ⟨Nat.le_of_ble_eq_true rfl, Nat.le_of_ble_eq_true rfl⟩) hP hD hS hA [0] [] [0] rfl rfl (by decide) (by decide) (fun _ => rfl) (by decide) (fun r5 u4 H locs hp6 hP hD hS => ?_)
  have hP : va_P (dC, dI) vwCl [(am 0, .inr (9, ((mf0 am).set 13 (.int (-1)))))] H := hP
  have hD : va_D A [(am 0, .inr (9, ((mf0 am).set 13 (.int (-1)))))] := hD
  refine W.widen (k := 0) (n := 0) (by decide) (by decide) ?_
  obtain rfl : r5 = 0 := hp6
  refine lv_if_eq (tgt := 43) hx hb dX9_next_27 (by decide) (fun _ => ?_) (fun c => absurd (by decide) c)
  refine lv_aload_n hx hb dX9_next_43 rfl (lv_at hl 0 rfl) ?_
  refine lv_aload_n hx hb dX9_next_44 rfl (lv_at hl 0 rfl) ?_
  refine va_get (D := (dC, dI)) (ci := 9) (v := .int 0) (C := RX9) (T := TX9) (N := 60) hx hb hts hi9 hown hK hP 0 rfl rfl 7 (by decide) hk0 (fun _ h9 => h9) rfl dX9_next_45 ?_
  refine z_put0 (D := (dC, dI)) (ci := 9) (v := .int 0) (ty := .int) (C := RX9) (T := TX9) (N := 60) hx hb hts hi9 tyX9 tyX9_ok nmX9 hown hK hP hD hS 0 rfl rfl 9 (by decide) hk1 (fun _ h9 => h9) rfl (by decide +kernel) rfl rfl rfl dX9_next_48 (fun H locs hP hS => ?_)
  refine lv_aload_n hx hb dX9_next_51 rfl (lv_at hl 0 rfl) ?_
  refine lv_iconst (v := 0) hx hb dX9_next_52 (by decide) ?_
  refine z_put0 (D := (dC, dI)) (ci := 9) (v := .int 0) (ty := .int) (C := RX9) (T := TX9) (N := 60) hx hb hts hi9 tyX9 tyX9_ok nmX9 hown hK hP hD hS 0 rfl rfl 10 (by decide) hk2 (fun _ h9 => h9) rfl (by decide +kernel) rfl rfl rfl dX9_next_53 (fun H locs hP hS => ?_)
  refine lv_aload_n hx hb dX9_next_56 rfl (lv_at hl 0 rfl) ?_
  refine lv_lconst (v := 0) hx hb dX9_next_57 (by decide) ?_
  refine z_put0 (D := (dC, dI)) (ci := 9) (v := .long 0) (ty := .long) (C := RX9) (T := TX9) (N := 60) hx hb hts hi9 tyX9 tyX9_ok nmX9 hown hK hP hD hS 0 rfl rfl 11 (by decide) hk3 (fun _ h9 => h9) rfl (by decide +kernel) rfl rfl rfl dX9_next_58 (fun H locs hP hS => ?_)
  refine lv_aload_n hx hb dX9_next_61 rfl (lv_at hl 0 rfl) ?_
  refine va_get (D := (dC, dI)) (ci := 9) (v := .int 0) (C := RX9) (T := TX9) (N := 60) hx hb hts hi9 hown hK hP 0 rfl rfl 7 (by decide) hk0 (fun _ h9 => h9) rfl dX9_next_62 ?_
  refine lv_aload_n hx hb dX9_next_65 rfl (lv_at hl 0 rfl) ?_
  refine va_get (D := (dC, dI)) (ci := 9) (v := .int 0) (C := RX9) (T := TX9) (N := 60) hx hb hts hi9 hown hK hP 0 rfl rfl 6 (by decide) hk4 (fun _ h9 => h9) rfl dX9_next_66 ?_
  refine lv_icmp_ne (tgt := 80) hx hb dX9_next_69 (by decide) (fun c => absurd (by decide) c) (fun _ => ?_)
  refine lv_aload_n hx hb dX9_next_72 rfl (lv_at hl 0 rfl) ?_
  refine lv_iconst (v := 0) hx hb dX9_next_73 (by decide) ?_
  refine z_put0 (D := (dC, dI)) (ci := 9) (v := .int 0) (ty := .int) (C := RX9) (T := TX9) (N := 60) hx hb hts hi9 tyX9 tyX9_ok nmX9 hown hK hP hD hS 0 rfl rfl 8 (by decide) hk5 (fun _ h9 => h9) rfl (by decide +kernel) rfl rfl rfl dX9_next_74 (fun H locs hP hS => ?_)
  refine lv_goto (tgt := 307) hx hb dX9_next_77 (by decide) ?_
  exact z_vret () hx hb hr hlocks hK hP hD hS hAe hQ rfl trivial dX9_next_307
