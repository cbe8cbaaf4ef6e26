set_option maxHeartbeats 4000000 in
set_option maxRecDepth 100000 in
theorem law_case22 {p : Program} {e : Env} {s : State} {m : MethodId} {below : List Frame} {meth : Method} {c : Code} {b : Nat} {xs : Nat → Int32} (l : Launch) (dC : Nat → ClassId) (dI : Nat → Nat → Nat) (cB cI cJ cZ cP cQ : ClassId) (ad am : Nat → Nat) (C0 : lw_At p s m meth c b 6 xs) (H : Heap) (locs : List Loc) (hK : va_K (dC, dI) vwCl (zT cB cI cJ cZ cP cQ) s) (hP : va_P (dC, dI) vwCl (zxw cB cI cJ cZ cP cQ ad ++ zmw cB cI cJ cZ cP cQ am) H) (hD : va_D (fun q : Nat => s.heap.size ≤ q) (zxw cB cI cJ cZ cP cQ ad ++ zmw cB cI cJ cZ cP cQ am)) (hS : va_S (fun q : Nat => s.heap.size ≤ q) s.heap H locs) (hX : zX [(RX1, 44, yX8_thousandths, "MonthPush"), (RX2, 18, yX5_init, "MonthPush"), (RX8, 380, yX2_init, "MonthPush")] [] s) (ls : Array Slot) (hl : lv_has ls 4 [(3, .int 0), (2, .ref (am 0)), (1, .ref (ad 0)), (0, .ref b)]) : W p l e room_1 s m #[Value.ref b] below meth c H locs 90 14039 (lw_Z below #[Value.ref b] s) (F0 m 881 ls []) := by
  obtain ⟨hx, hb, hr, hml, hown, hts, hXs, hbl, hlocks, hgv⟩ := id C0
  have hown : s.vm.findClass RL = some m.cls := hown
  have hA : ∀ q : Nat, s.heap.size ≤ q → (fun q : Nat => s.heap.size ≤ q) q := fun _ h => h
  have hbA : ¬ (fun q : Nat => s.heap.size ≤ q) b := Nat.not_le.mpr hbl
  refine lv_aload_n hx hb dL_law_881 rfl (lv_at hl 2 rfl) ?_
  refine lv_aload_n hx hb dL_law_882 rfl (lv_at hl 3 rfl) ?_
  refine lv_iload_n hx hb dL_law_883 rfl (lv_at hl 0 rfl) ?_
  refine lv_iconst (v := 1) hx hb dL_law_884 (by decide) ?_
  refine lv_iadd hx hb dL_law_885 ?_
  refine z_topi (y := 1) (by decide +kernel) ?_
  refine va_sld hx hb hXs hbl hbA hS (z_in (a := 1) (by decide) (by decide) (by decide)) dL_law_886 ?_
  refine z_topi (y := xs 1) rfl ?_
  refine lv_aload_n hx hb dL_law_887 rfl (lv_at hl 3 rfl) ?_
  refine lv_iload_n hx hb dL_law_888 rfl (lv_at hl 0 rfl) ?_
  refine lv_iconst (v := 2) hx hb dL_law_889 (by decide) ?_
  refine lv_iadd hx hb dL_law_890 ?_
  refine z_topi (y := 2) (by decide +kernel) ?_
  refine va_sld hx hb hXs hbl hbA hS (z_in (a := 2) (by decide) (by decide) (by decide)) dL_law_891 ?_
  refine z_topi (y := xs 2) rfl ?_
  refine lv_aload_n hx hb dL_law_892 rfl (lv_at hl 3 rfl) ?_
  refine lv_iload_n hx hb dL_law_893 rfl (lv_at hl 0 rfl) ?_
  refine lv_iconst (v := 3) hx hb dL_law_894 (by decide) ?_
  refine lv_iadd hx hb dL_law_895 ?_
  refine z_topi (y := 3) (by decide +kernel) ?_
  refine va_sld hx hb hXs hbl hbA hS (z_in (a := 3) (by decide) (by decide) (by decide)) dL_law_896 ?_
  refine z_topi (y := xs 3) rfl ?_
  refine z_fini (w' := fun (_ : Unit) => [(am 0, .inr (9, mf0 am)), (am 25, .inl (cI, 5, .inl (fun _ => 0)))]) (va_runV (As := [.int (xs 1), .int (xs 2), .int (xs 3)]) (rest := []) ⟨hx, hb, hml, hown, hts⟩ (c_X8_kept_75 l dC dI cB cI cJ cZ cP cQ ad H.size (xs 1) (xs 2) (xs 3)) (cwV 3 hts gT_X8_kept rfl rfl rfl (by decide +kernel) ⟨Nat.le_of_ble_eq_true rfl, Nat.le_of_ble_eq_true rfl⟩) (z_pV (ci := 8) hK hP hD zX_nil [0, 23, 38] (by decide) rfl rfl 0 rfl) rfl rfl hl.1 rfl (lv_room (Nat.le_of_ble_eq_true rfl)) dL_law_897 ⟨Nat.le_of_ble_eq_true rfl, Nat.le_of_ble_eq_true rfl⟩) hP hD hS hA [0, 23, 38] [53, 78] [0, 1] rfl rfl (by decide) (by decide) (fun _ => rfl) (by decide) (fun r1 u2 H locs hp3 hP hD hS => ?_)
  have hP : va_P (dC, dI) vwCl [(am 0, .inr (9, mf0 am)), (am 25, .inl (cI, 5, .inl (fun _ => 0)))] H := hP
  have hD : va_D (fun q : Nat => s.heap.size ≤ q) [(am 0, .inr (9, mf0 am)), (am 25, .inl (cI, 5, .inl (fun _ => 0)))] := hD
  refine W.widen (k := 90) (n := 14039) (by decide) (by decide) ?_
  refine lv_aload_n hx hb dL_law_900 rfl (lv_at hl 1 rfl) ?_
  refine lv_aload_n hx hb dL_law_901 rfl (lv_at hl 3 rfl) ?_
  refine lv_iload_n hx hb dL_law_902 rfl (lv_at hl 0 rfl) ?_
  refine lv_iconst (v := 1) hx hb dL_law_903 (by decide) ?_
  refine lv_iadd hx hb dL_law_904 ?_
  refine z_topi (y := 1) (by decide +kernel) ?_
  refine va_sld hx hb hXs hbl hbA hS (z_in (a := 1) (by decide) (by decide) (by decide)) dL_law_905 ?_
  refine z_topi (y := xs 1) rfl ?_
  refine lv_aload_n hx hb dL_law_906 rfl (lv_at hl 3 rfl) ?_
  refine lv_iload_n hx hb dL_law_907 rfl (lv_at hl 0 rfl) ?_
  refine lv_iconst (v := 2) hx hb dL_law_908 (by decide) ?_
  refine lv_iadd hx hb dL_law_909 ?_
  refine z_topi (y := 2) (by decide +kernel) ?_
  refine va_sld hx hb hXs hbl hbA hS (z_in (a := 2) (by decide) (by decide) (by decide)) dL_law_910 ?_
  refine z_topi (y := xs 2) rfl ?_
  refine lv_aload_n hx hb dL_law_911 rfl (lv_at hl 3 rfl) ?_
  refine lv_iload_n hx hb dL_law_912 rfl (lv_at hl 0 rfl) ?_
  refine lv_iconst (v := 3) hx hb dL_law_913 (by decide) ?_
  refine lv_iadd hx hb dL_law_914 ?_
  refine z_topi (y := 3) (by decide +kernel) ?_
  refine va_sld hx hb hXs hbl hbA hS (z_in (a := 3) (by decide) (by decide) (by decide)) dL_law_915 ?_
  refine z_topi (y := xs 3) rfl ?_
  refine z_fini (w' := fun (_ : Unit) => []) (va_runV (As := [.int (xs 1), .int (xs 2), .int (xs 3)]) (rest := [.int r1]) ⟨hx, hb, hml, hown, hts⟩ (c_X9_kept_219 l dC dI cB cI cJ cZ cP cQ am H.size (xs 1) (xs 2) (xs 3)) (cwV 3 hts gT_X9_kept rfl rfl rfl (by decide +kernel) ⟨Nat.le_of_ble_eq_true rfl, Nat.le_of_ble_eq_true rfl⟩) (z_pV (ci := 9) hK hP hD zX_nil [0, 1] (by decide) rfl rfl 0 rfl) rfl rfl hl.1 rfl (lv_room (Nat.le_of_ble_eq_true rfl)) dL_law_916 ⟨Nat.le_of_ble_eq_true rfl, Nat.le_of_ble_eq_true rfl⟩) hP hD hS hA [0, 1] [] [] rfl rfl (by decide) (by decide) (fun _ => rfl) (by decide) (fun r4 u5 H locs hp6 hP hD hS => ?_)
  have hP : va_P (dC, dI) vwCl [] H := hP
  have hD : va_D (fun q : Nat => s.heap.size ≤ q) [] := hD
  refine W.widen (k := 90) (n := 14039) (by decide) (by decide) ?_
  have heq : r1 = r4 := by
    rcases hp3 with ⟨rfl, a0⟩ | ⟨rfl, a0, a1⟩ | ⟨rfl, a0, a1, a2⟩ | ⟨rfl, a0, a1, a2, a3⟩ | ⟨rfl, a0, a1, a2, a3, a4⟩ | ⟨rfl, a0, a1, a2, a3, a4, a5⟩ | ⟨rfl, a0, a1, a2, a3, a4, a5⟩ <;> (rcases hp6 with ⟨rfl, b0⟩ | ⟨rfl, b0, b1⟩ | ⟨rfl, b0, b1, b2⟩ | ⟨rfl, b0, b1, b2, b3⟩ | ⟨rfl, b0, b1, b2, b3, b4⟩ | ⟨rfl, b0, b1, b2, b3, b4, b5⟩ | ⟨rfl, b0, b1, b2, b3, b4, b5⟩ <;> first | rfl | (exfalso; omega))
  refine lv_icmp_eq (tgt := 1625) hx hb dL_law_919 (by decide) (fun _ => ?_) (fun c => absurd heq c)
  exact law_tail C0 hS (by decide) (by decide) (lv_sub hl [0, 1, 2, 3] rfl)
set_option maxHeartbeats 4000000 in
set_option maxRecDepth 100000 in
theorem law_case23 {p : Program} {e : Env} {s : State} {m : MethodId} {below : List Frame} {meth : Method} {c : Code} {b : Nat} {xs : Nat → Int32} (l : Launch) (dC : Nat → ClassId) (dI : Nat → Nat → Nat) (cB cI cJ cZ cP cQ : ClassId) (ad am : Nat → Nat) (C0 : lw_At p s m meth c b 6 xs) (H : Heap) (locs : List Loc) (hK : va_K (dC, dI) vwCl (zT cB cI cJ cZ cP cQ) s) (hP : va_P (dC, dI) vwCl (zxw cB cI cJ cZ cP cQ ad ++ zmw cB cI cJ cZ cP cQ am) H) (hD : va_D (fun q : Nat => s.heap.size ≤ q) (zxw cB cI cJ cZ cP cQ ad ++ zmw cB cI cJ cZ cP cQ am)) (hS : va_S (fun q : Nat => s.heap.size ≤ q) s.heap H locs) (hX : zX [(RX1, 44, yX8_thousandths, "MonthPush"), (RX2, 18, yX5_init, "MonthPush"), (RX8, 380, yX2_init, "MonthPush")] [] s) (ls : Array Slot) (hl : lv_has ls 4 [(3, .int 0), (2, .ref (am 0)), (1, .ref (ad 0)), (0, .ref b)]) : W p l e room_1 s m #[Value.ref b] below meth c H locs 90 14039 (lw_Z below #[Value.ref b] s) (F0 m 924 ls []) := by
  obtain ⟨hx, hb, hr, hml, hown, hts, hXs, hbl, hlocks, hgv⟩ := id C0
  have hown : s.vm.findClass RL = some m.cls := hown
  have hA : ∀ q : Nat, s.heap.size ≤ q → (fun q : Nat => s.heap.size ≤ q) q := fun _ h => h
  have hbA : ¬ (fun q : Nat => s.heap.size ≤ q) b := Nat.not_le.mpr hbl
  refine lv_aload_n hx hb dL_law_924 rfl (lv_at hl 2 rfl) ?_
  refine lv_aload_n hx hb dL_law_925 rfl (lv_at hl 3 rfl) ?_
  refine lv_iload_n hx hb dL_law_926 rfl (lv_at hl 0 rfl) ?_
  refine lv_iconst (v := 1) hx hb dL_law_927 (by decide) ?_
  refine lv_iadd hx hb dL_law_928 ?_
  refine z_topi (y := 1) (by decide +kernel) ?_
  refine va_sld hx hb hXs hbl hbA hS (z_in (a := 1) (by decide) (by decide) (by decide)) dL_law_929 ?_
  refine z_topi (y := xs 1) rfl ?_
  refine lv_aload_n hx hb dL_law_930 rfl (lv_at hl 3 rfl) ?_
  refine lv_iload_n hx hb dL_law_931 rfl (lv_at hl 0 rfl) ?_
  refine lv_iconst (v := 2) hx hb dL_law_932 (by decide) ?_
  refine lv_iadd hx hb dL_law_933 ?_
  refine z_topi (y := 2) (by decide +kernel) ?_
  refine va_sld hx hb hXs hbl hbA hS (z_in (a := 2) (by decide) (by decide) (by decide)) dL_law_934 ?_
  refine z_topi (y := xs 2) rfl ?_
  refine lv_aload_n hx hb dL_law_935 rfl (lv_at hl 3 rfl) ?_
  refine lv_iload_n hx hb dL_law_936 rfl (lv_at hl 0 rfl) ?_
  refine lv_iconst (v := 3) hx hb dL_law_937 (by decide) ?_
  refine lv_iadd hx hb dL_law_938 ?_
  refine z_topi (y := 3) (by decide +kernel) ?_
  refine va_sld hx hb hXs hbl hbA hS (z_in (a := 3) (by decide) (by decide) (by decide)) dL_law_939 ?_
  refine z_topi (y := xs 3) rfl ?_
  refine lv_aload_n hx hb dL_law_940 rfl (lv_at hl 3 rfl) ?_
  refine lv_iload_n hx hb dL_law_941 rfl (lv_at hl 0 rfl) ?_
  refine lv_iconst (v := 4) hx hb dL_law_942 (by decide) ?_
  refine lv_iadd hx hb dL_law_943 ?_
  refine z_topi (y := 4) (by decide +kernel) ?_
  refine va_sld hx hb hXs hbl hbA hS (z_in (a := 4) (by decide) (by decide) (by decide)) dL_law_944 ?_
  refine z_topi (y := xs 4) rfl ?_
  refine z_fini (w' := fun (_ : Unit) => [(am 0, .inr (9, mf0 am)), (am 25, .inl (cI, 5, .inl (fun _ => 0)))]) (va_runV (As := [.int (xs 1), .int (xs 2), .int (xs 3), .int (xs 4)]) (rest := []) ⟨hx, hb, hml, hown, hts⟩ (c_X8_hats_81 l dC dI cB cI cJ cZ cP cQ ad H.size (xs 1) (xs 2) (xs 3) (xs 4)) (cwV 4 hts gT_X8_hats rfl rfl rfl (by decide +kernel) ⟨Nat.le_of_ble_eq_true rfl, Nat.le_of_ble_eq_true rfl⟩) (z_pV (ci := 8) hK hP hD zX_nil [0, 23, 37, 38] (by decide) rfl rfl 0 rfl) rfl rfl hl.1 rfl (lv_room (Nat.le_of_ble_eq_true rfl)) dL_law_945 ⟨Nat.le_of_ble_eq_true rfl, Nat.le_of_ble_eq_true rfl⟩) hP hD hS hA [0, 23, 37, 38] [53, 78] [0, 1] rfl rfl (by decide) (by decide) (fun _ => rfl) (by decide) (fun r1 u2 H locs hp3 hP hD hS => ?_)
  have hP : va_P (dC, dI) vwCl [(am 0, .inr (9, mf0 am)), (am 25, .inl (cI, 5, .inl (fun _ => 0)))] H := hP
  have hD : va_D (fun q : Nat => s.heap.size ≤ q) [(am 0, .inr (9, mf0 am)), (am 25, .inl (cI, 5, .inl (fun _ => 0)))] := hD
  refine W.widen (k := 90) (n := 14039) (by decide) (by decide) ?_
  refine lv_aload_n hx hb dL_law_948 rfl (lv_at hl 1 rfl) ?_
  refine lv_aload_n hx hb dL_law_949 rfl (lv_at hl 3 rfl) ?_
  refine lv_iload_n hx hb dL_law_950 rfl (lv_at hl 0 rfl) ?_
  refine lv_iconst (v := 1) hx hb dL_law_951 (by decide) ?_
  refine lv_iadd hx hb dL_law_952 ?_
  refine z_topi (y := 1) (by decide +kernel) ?_
  refine va_sld hx hb hXs hbl hbA hS (z_in (a := 1) (by decide) (by decide) (by decide)) dL_law_953 ?_
  refine z_topi (y := xs 1) rfl ?_
  refine lv_aload_n hx hb dL_law_954 rfl (lv_at hl 3 rfl) ?_
  refine lv_iload_n hx hb dL_law_955 rfl (lv_at hl 0 rfl) ?_
  refine lv_iconst (v := 2) hx hb dL_law_956 (by decide) ?_
  refine lv_iadd hx hb dL_law_957 ?_
  refine z_topi (y := 2) (by decide +kernel) ?_
  refine va_sld hx hb hXs hbl hbA hS (z_in (a := 2) (by decide) (by decide) (by decide)) dL_law_958 ?_
  refine z_topi (y := xs 2) rfl ?_
  refine lv_aload_n hx hb dL_law_959 rfl (lv_at hl 3 rfl) ?_
  refine lv_iload_n hx hb dL_law_960 rfl (lv_at hl 0 rfl) ?_
  refine lv_iconst (v := 3) hx hb dL_law_961 (by decide) ?_
  refine lv_iadd hx hb dL_law_962 ?_
  refine z_topi (y := 3) (by decide +kernel) ?_
  refine va_sld hx hb hXs hbl hbA hS (z_in (a := 3) (by decide) (by decide) (by decide)) dL_law_963 ?_
  refine z_topi (y := xs 3) rfl ?_
  refine lv_aload_n hx hb dL_law_964 rfl (lv_at hl 3 rfl) ?_
  refine lv_iload_n hx hb dL_law_965 rfl (lv_at hl 0 rfl) ?_
  refine lv_iconst (v := 4) hx hb dL_law_966 (by decide) ?_
  refine lv_iadd hx hb dL_law_967 ?_
  refine z_topi (y := 4) (by decide +kernel) ?_
  refine va_sld hx hb hXs hbl hbA hS (z_in (a := 4) (by decide) (by decide) (by decide)) dL_law_968 ?_
  refine z_topi (y := xs 4) rfl ?_
  refine z_fini (w' := fun (_ : Unit) => []) (va_runV (As := [.int (xs 1), .int (xs 2), .int (xs 3), .int (xs 4)]) (rest := [.int r1]) ⟨hx, hb, hml, hown, hts⟩ (c_X9_hats_231 l dC dI cB cI cJ cZ cP cQ am H.size (xs 1) (xs 2) (xs 3) (xs 4)) (cwV 4 hts gT_X9_hats rfl rfl rfl (by decide +kernel) ⟨Nat.le_of_ble_eq_true rfl, Nat.le_of_ble_eq_true rfl⟩) (z_pV (ci := 9) hK hP hD zX_nil [0, 1] (by decide) rfl rfl 0 rfl) rfl rfl hl.1 rfl (lv_room (Nat.le_of_ble_eq_true rfl)) dL_law_969 ⟨Nat.le_of_ble_eq_true rfl, Nat.le_of_ble_eq_true rfl⟩) hP hD hS hA [0, 1] [] [] rfl rfl (by decide) (by decide) (fun _ => rfl) (by decide) (fun r4 u5 H locs hp6 hP hD hS => ?_)
  have hP : va_P (dC, dI) vwCl [] H := hP
  have hD : va_D (fun q : Nat => s.heap.size ≤ q) [] := hD
  refine W.widen (k := 90) (n := 14039) (by decide) (by decide) ?_
  have heq : r1 = r4 := by
    rcases hp3 with ⟨rfl, a0⟩ | ⟨rfl, a0, a1⟩ | ⟨rfl, a0, a1, a2⟩ | ⟨rfl, a0, a1, a2, a3⟩ | ⟨rfl, a0, a1, a2, a3, a4⟩ | ⟨rfl, a0, a1, a2, a3, a4, a5⟩ | ⟨rfl, a0, a1, a2, a3, a4, a5, a6⟩ | ⟨rfl, a0, a1, a2, a3, a4, a5, a6, a7⟩ | ⟨rfl, a0, a1, a2, a3, a4, a5, a6, a7, a8⟩ | ⟨rfl, a0, a1, a2, a3, a4, a5, a6, a7, a8⟩ <;> (rcases hp6 with ⟨rfl, b0⟩ | ⟨rfl, b0, b1⟩ | ⟨rfl, b0, b1, b2⟩ | ⟨rfl, b0, b1, b2, b3⟩ | ⟨rfl, b0, b1, b2, b3, b4⟩ | ⟨rfl, b0, b1, b2, b3, b4, b5⟩ | ⟨rfl, b0, b1, b2, b3, b4, b5, b6⟩ | ⟨rfl, b0, b1, b2, b3, b4, b5, b6, b7⟩ | ⟨rfl, b0, b1, b2, b3, b4, b5, b6, b7, b8⟩ | ⟨rfl, b0, b1, b2, b3, b4, b5, b6, b7, b8⟩ <;> first | rfl | (exfalso; omega))
  refine lv_icmp_eq (tgt := 1625) hx hb dL_law_972 (by decide) (fun _ => ?_) (fun c => absurd heq c)
  exact law_tail C0 hS (by decide) (by decide) (lv_sub hl [0, 1, 2, 3] rfl)
set_option maxHeartbeats 4000000 in
set_option maxRecDepth 100000 in
theorem law_case24 {p : Program} {e : Env} {s : State} {m : MethodId} {below : List Frame} {meth : Method} {c : Code} {b : Nat} {xs : Nat → Int32} (l : Launch) (dC : Nat → ClassId) (dI : Nat → Nat → Nat) (cB cI cJ cZ cP cQ : ClassId) (ad am : Nat → Nat) (C0 : lw_At p s m meth c b 6 xs) (H : Heap) (locs : List Loc) (hK : va_K (dC, dI) vwCl (zT cB cI cJ cZ cP cQ) s) (hP : va_P (dC, dI) vwCl (zxw cB cI cJ cZ cP cQ ad ++ zmw cB cI cJ cZ cP cQ am) H) (hD : va_D (fun q : Nat => s.heap.size ≤ q) (zxw cB cI cJ cZ cP cQ ad ++ zmw cB cI cJ cZ cP cQ am)) (hS : va_S (fun q : Nat => s.heap.size ≤ q) s.heap H locs) (hX : zX [(RX1, 44, yX8_thousandths, "MonthPush"), (RX2, 18, yX5_init, "MonthPush"), (RX8, 380, yX2_init, "MonthPush")] [] s) (ls : Array Slot) (hl : lv_has ls 4 [(3, .int 0), (2, .ref (am 0)), (1, .ref (ad 0)), (0, .ref b)]) : W p l e room_1 s m #[Value.ref b] below meth c H locs 90 14039 (lw_Z below #[Value.ref b] s) (F0 m 977 ls []) := by
  obtain ⟨hx, hb, hr, hml, hown, hts, hXs, hbl, hlocks, hgv⟩ := id C0
  have hown : s.vm.findClass RL = some m.cls := hown
  have hA : ∀ q : Nat, s.heap.size ≤ q → (fun q : Nat => s.heap.size ≤ q) q := fun _ h => h
  have hbA : ¬ (fun q : Nat => s.heap.size ≤ q) b := Nat.not_le.mpr hbl
  refine lv_aload_n hx hb dL_law_977 rfl (lv_at hl 2 rfl) ?_
  refine lv_aload_n hx hb dL_law_978 rfl (lv_at hl 3 rfl) ?_
  refine lv_iload_n hx hb dL_law_979 rfl (lv_at hl 0 rfl) ?_
  refine lv_iconst (v := 1) hx hb dL_law_980 (by decide) ?_
  refine lv_iadd hx hb dL_law_981 ?_
  refine z_topi (y := 1) (by decide +kernel) ?_
  refine va_sld hx hb hXs hbl hbA hS (z_in (a := 1) (by decide) (by decide) (by decide)) dL_law_982 ?_
  refine z_topi (y := xs 1) rfl ?_
  refine z_finl (w' := fun (_ : Unit) => [(am 0, .inr (9, mf0 am)), (am 25, .inl (cI, 5, .inl (fun _ => 0)))]) (va_runV (As := [.int (xs 1)]) (rest := []) ⟨hx, hb, hml, hown, hts⟩ (c_X8_leak_82 l dC dI cB cI cJ cZ cP cQ ad H.size (xs 1)) (cwV 1 hts gT_X8_leak rfl rfl rfl (by decide +kernel) ⟨Nat.le_of_ble_eq_true rfl, Nat.le_of_ble_eq_true rfl⟩) (z_pV (ci := 8) hK hP hD zX_nil [0, 23, 38] (by decide) rfl rfl 0 rfl) rfl rfl hl.1 rfl (lv_room (Nat.le_of_ble_eq_true rfl)) dL_law_983 ⟨Nat.le_of_ble_eq_true rfl, Nat.le_of_ble_eq_true rfl⟩) hP hD hS hA [0, 23, 38] [53, 78] [0, 1] rfl rfl (by decide) (by decide) (fun _ => rfl) (by decide) (fun r1 u2 H locs hp3 hP hD hS => ?_)
  have hP : va_P (dC, dI) vwCl [(am 0, .inr (9, mf0 am)), (am 25, .inl (cI, 5, .inl (fun _ => 0)))] H := hP
  have hD : va_D (fun q : Nat => s.heap.size ≤ q) [(am 0, .inr (9, mf0 am)), (am 25, .inl (cI, 5, .inl (fun _ => 0)))] := hD
  refine W.widen (k := 90) (n := 14039) (by decide) (by decide) ?_
  refine lv_aload_n hx hb dL_law_986 rfl (lv_at hl 1 rfl) ?_
  refine lv_aload_n hx hb dL_law_987 rfl (lv_at hl 3 rfl) ?_
  refine lv_iload_n hx hb dL_law_988 rfl (lv_at hl 0 rfl) ?_
  refine lv_iconst (v := 1) hx hb dL_law_989 (by decide) ?_
  refine lv_iadd hx hb dL_law_990 ?_
  refine z_topi (y := 1) (by decide +kernel) ?_
  refine va_sld hx hb hXs hbl hbA hS (z_in (a := 1) (by decide) (by decide) (by decide)) dL_law_991 ?_
  refine z_topi (y := xs 1) rfl ?_
  refine z_finl (w' := fun (_ : Unit) => []) (va_runV (As := [.int (xs 1)]) (rest := [.long r1]) ⟨hx, hb, hml, hown, hts⟩ (c_X9_leak_203 l dC dI cB cI cJ cZ cP cQ am H.size (xs 1)) (cwV 1 hts gT_X9_leak rfl rfl rfl (by decide +kernel) ⟨Nat.le_of_ble_eq_true rfl, Nat.le_of_ble_eq_true rfl⟩) (z_pV (ci := 9) hK hP hD zX_nil [0, 1] (by decide) rfl rfl 0 rfl) rfl rfl hl.1 rfl (lv_room (Nat.le_of_ble_eq_true rfl)) dL_law_992 ⟨Nat.le_of_ble_eq_true rfl, Nat.le_of_ble_eq_true rfl⟩) hP hD hS hA [0, 1] [] [] rfl rfl (by decide) (by decide) (fun _ => rfl) (by decide) (fun r4 u5 H locs hp6 hP hD hS => ?_)
  have hP : va_P (dC, dI) vwCl [] H := hP
  have hD : va_D (fun q : Nat => s.heap.size ≤ q) [] := hD
  refine W.widen (k := 90) (n := 14039) (by decide) (by decide) ?_
  have heq : r1 = r4 := by
    rcases hp3 with ⟨rfl, a0⟩ | ⟨rfl, a0, a1⟩ | ⟨rfl, a0, a1⟩ <;> (rcases hp6 with ⟨rfl, b0⟩ | ⟨rfl, b0, b1⟩ | ⟨rfl, b0, b1⟩ <;> first | rfl | (exfalso; omega))
  refine W.lcmp hx hb dL_law_995 ?_
  refine z_topi (y := 0) (by rw [heq]; exact z_cmp0) ?_
  refine lv_if_eq (tgt := 1625) hx hb dL_law_996 (by decide) (fun _ => ?_) (fun c => absurd (by decide) c)
  exact law_tail C0 hS (by decide) (by decide) (lv_sub hl [0, 1, 2, 3] rfl)
set_option maxHeartbeats 4000000 in
set_option maxRecDepth 100000 in
theorem law_case25 {p : Program} {e : Env} {s : State} {m : MethodId} {below : List Frame} {meth : Method} {c : Code} {b : Nat} {xs : Nat → Int32} (l : Launch) (dC : Nat → ClassId) (dI : Nat → Nat → Nat) (cB cI cJ cZ cP cQ : ClassId) (ad am : Nat → Nat) (C0 : lw_At p s m meth c b 6 xs) (H : Heap) (locs : List Loc) (hK : va_K (dC, dI) vwCl (zT cB cI cJ cZ cP cQ) s) (hP : va_P (dC, dI) vwCl (zxw cB cI cJ cZ cP cQ ad ++ zmw cB cI cJ cZ cP cQ am) H) (hD : va_D (fun q : Nat => s.heap.size ≤ q) (zxw cB cI cJ cZ cP cQ ad ++ zmw cB cI cJ cZ cP cQ am)) (hS : va_S (fun q : Nat => s.heap.size ≤ q) s.heap H locs) (hX : zX [(RX1, 44, yX8_thousandths, "MonthPush"), (RX2, 18, yX5_init, "MonthPush"), (RX8, 380, yX2_init, "MonthPush")] [] s) (ls : Array Slot) (hl : lv_has ls 4 [(3, .int 0), (2, .ref (am 0)), (1, .ref (ad 0)), (0, .ref b)]) : W p l e room_1 s m #[Value.ref b] below meth c H locs 90 14039 (lw_Z below #[Value.ref b] s) (F0 m 1001 ls []) := by
  obtain ⟨hx, hb, hr, hml, hown, hts, hXs, hbl, hlocks, hgv⟩ := id C0
  have hown : s.vm.findClass RL = some m.cls := hown
  have hA : ∀ q : Nat, s.heap.size ≤ q → (fun q : Nat => s.heap.size ≤ q) q := fun _ h => h
  have hbA : ¬ (fun q : Nat => s.heap.size ≤ q) b := Nat.not_le.mpr hbl
  refine lv_aload_n hx hb dL_law_1001 rfl (lv_at hl 2 rfl) ?_
  refine lv_aload_n hx hb dL_law_1002 rfl (lv_at hl 3 rfl) ?_
  refine lv_iload_n hx hb dL_law_1003 rfl (lv_at hl 0 rfl) ?_
  refine lv_iconst (v := 1) hx hb dL_law_1004 (by decide) ?_
  refine lv_iadd hx hb dL_law_1005 ?_
  refine z_topi (y := 1) (by decide +kernel) ?_
  refine va_sld hx hb hXs hbl hbA hS (z_in (a := 1) (by decide) (by decide) (by decide)) dL_law_1006 ?_
  refine z_topi (y := xs 1) rfl ?_
  refine lv_aload_n hx hb dL_law_1007 rfl (lv_at hl 3 rfl) ?_
  refine lv_iload_n hx hb dL_law_1008 rfl (lv_at hl 0 rfl) ?_
  refine lv_iconst (v := 2) hx hb dL_law_1009 (by decide) ?_
  refine lv_iadd hx hb dL_law_1010 ?_
  refine z_topi (y := 2) (by decide +kernel) ?_
  refine va_sld hx hb hXs hbl hbA hS (z_in (a := 2) (by decide) (by decide) (by decide)) dL_law_1011 ?_
  refine z_topi (y := xs 2) rfl ?_
  refine z_finl (w' := fun (_ : Unit) => [(am 0, .inr (9, mf0 am)), (am 25, .inl (cI, 5, .inl (fun _ => 0)))]) (va_runV (As := [.int (xs 1), .int (xs 2)]) (rest := []) ⟨hx, hb, hml, hown, hts⟩ (c_X8_leaked_85 l dC dI cB cI cJ cZ cP cQ ad H.size (xs 1) (xs 2)) (cwV 2 hts gT_X8_leaked rfl rfl rfl (by decide +kernel) ⟨Nat.le_of_ble_eq_true rfl, Nat.le_of_ble_eq_true rfl⟩) (z_pV (ci := 8) hK hP hD zX_nil [0, 23, 38] (by decide) rfl rfl 0 rfl) rfl rfl hl.1 rfl (lv_room (Nat.le_of_ble_eq_true rfl)) dL_law_1012 ⟨Nat.le_of_ble_eq_true rfl, Nat.le_of_ble_eq_true rfl⟩) hP hD hS hA [0, 23, 38] [53, 78] [0, 1] rfl rfl (by decide) (by decide) (fun _ => rfl) (by decide) (fun r1 u2 H locs hp3 hP hD hS => ?_)
  have hP : va_P (dC, dI) vwCl [(am 0, .inr (9, mf0 am)), (am 25, .inl (cI, 5, .inl (fun _ => 0)))] H := hP
  have hD : va_D (fun q : Nat => s.heap.size ≤ q) [(am 0, .inr (9, mf0 am)), (am 25, .inl (cI, 5, .inl (fun _ => 0)))] := hD
  refine W.widen (k := 90) (n := 14039) (by decide) (by decide) ?_
  refine lv_aload_n hx hb dL_law_1015 rfl (lv_at hl 1 rfl) ?_
  refine lv_aload_n hx hb dL_law_1016 rfl (lv_at hl 3 rfl) ?_
  refine lv_iload_n hx hb dL_law_1017 rfl (lv_at hl 0 rfl) ?_
  refine lv_iconst (v := 1) hx hb dL_law_1018 (by decide) ?_
  refine lv_iadd hx hb dL_law_1019 ?_
  refine z_topi (y := 1) (by decide +kernel) ?_
  refine va_sld hx hb hXs hbl hbA hS (z_in (a := 1) (by decide) (by decide) (by decide)) dL_law_1020 ?_
  refine z_topi (y := xs 1) rfl ?_
  refine lv_aload_n hx hb dL_law_1021 rfl (lv_at hl 3 rfl) ?_
  refine lv_iload_n hx hb dL_law_1022 rfl (lv_at hl 0 rfl) ?_
  refine lv_iconst (v := 2) hx hb dL_law_1023 (by decide) ?_
  refine lv_iadd hx hb dL_law_1024 ?_
  refine z_topi (y := 2) (by decide +kernel) ?_
  refine va_sld hx hb hXs hbl hbA hS (z_in (a := 2) (by decide) (by decide) (by decide)) dL_law_1025 ?_
  refine z_topi (y := xs 2) rfl ?_
  refine z_finl (w' := fun (_ : Unit) => []) (va_runV (As := [.int (xs 1), .int (xs 2)]) (rest := [.long r1]) ⟨hx, hb, hml, hown, hts⟩ (c_X9_leaked_206 l dC dI cB cI cJ cZ cP cQ am H.size (xs 1) (xs 2)) (cwV 2 hts gT_X9_leaked rfl rfl rfl (by decide +kernel) ⟨Nat.le_of_ble_eq_true rfl, Nat.le_of_ble_eq_true rfl⟩) (z_pV (ci := 9) hK hP hD zX_nil [0, 1] (by decide) rfl rfl 0 rfl) rfl rfl hl.1 rfl (lv_room (Nat.le_of_ble_eq_true rfl)) dL_law_1026 ⟨Nat.le_of_ble_eq_true rfl, Nat.le_of_ble_eq_true rfl⟩) hP hD hS hA [0, 1] [] [] rfl rfl (by decide) (by decide) (fun _ => rfl) (by decide) (fun r4 u5 H locs hp6 hP hD hS => ?_)
  have hP : va_P (dC, dI) vwCl [] H := hP
  have hD : va_D (fun q : Nat => s.heap.size ≤ q) [] := hD
  refine W.widen (k := 90) (n := 14039) (by decide) (by decide) ?_
  have heq : r1 = r4 := by
    rcases hp3 with ⟨rfl, a0⟩ | ⟨rfl, a0, a1⟩ | ⟨rfl, a0, a1, a2⟩ | ⟨rfl, a0, a1, a2, a3⟩ | ⟨rfl, a0, a1, a2, a3⟩ <;> (rcases hp6 with ⟨rfl, b0⟩ | ⟨rfl, b0, b1⟩ | ⟨rfl, b0, b1, b2⟩ | ⟨rfl, b0, b1, b2, b3⟩ | ⟨rfl, b0, b1, b2, b3⟩ <;> first | rfl | (exfalso; omega))
  refine W.lcmp hx hb dL_law_1029 ?_
  refine z_topi (y := 0) (by rw [heq]; exact z_cmp0) ?_
  refine lv_if_eq (tgt := 1625) hx hb dL_law_1030 (by decide) (fun _ => ?_) (fun c => absurd (by decide) c)
  exact law_tail C0 hS (by decide) (by decide) (lv_sub hl [0, 1, 2, 3] rfl)
set_option maxHeartbeats 4000000 in
set_option maxRecDepth 100000 in
theorem law_case26 {p : Program} {e : Env} {s : State} {m : MethodId} {below : List Frame} {meth : Method} {c : Code} {b : Nat} {xs : Nat → Int32} (l : Launch) (dC : Nat → ClassId) (dI : Nat → Nat → Nat) (cB cI cJ cZ cP cQ : ClassId) (ad am : Nat → Nat) (C0 : lw_At p s m meth c b 6 xs) (H : Heap) (locs : List Loc) (hK : va_K (dC, dI) vwCl (zT cB cI cJ cZ cP cQ) s) (hP : va_P (dC, dI) vwCl (zxw cB cI cJ cZ cP cQ ad ++ zmw cB cI cJ cZ cP cQ am) H) (hD : va_D (fun q : Nat => s.heap.size ≤ q) (zxw cB cI cJ cZ cP cQ ad ++ zmw cB cI cJ cZ cP cQ am)) (hS : va_S (fun q : Nat => s.heap.size ≤ q) s.heap H locs) (hX : zX [(RX1, 44, yX8_thousandths, "MonthPush"), (RX2, 18, yX5_init, "MonthPush"), (RX8, 380, yX2_init, "MonthPush")] [] s) (ls : Array Slot) (hl : lv_has ls 4 [(3, .int 0), (2, .ref (am 0)), (1, .ref (ad 0)), (0, .ref b)]) : W p l e room_1 s m #[Value.ref b] below meth c H locs 90 14039 (lw_Z below #[Value.ref b] s) (F0 m 1035 ls []) := by
  obtain ⟨hx, hb, hr, hml, hown, hts, hXs, hbl, hlocks, hgv⟩ := id C0
  have hown : s.vm.findClass RL = some m.cls := hown
  have hA : ∀ q : Nat, s.heap.size ≤ q → (fun q : Nat => s.heap.size ≤ q) q := fun _ h => h
  have hbA : ¬ (fun q : Nat => s.heap.size ≤ q) b := Nat.not_le.mpr hbl
  refine lv_aload_n hx hb dL_law_1035 rfl (lv_at hl 2 rfl) ?_
  refine lv_aload_n hx hb dL_law_1036 rfl (lv_at hl 3 rfl) ?_
  refine lv_iload_n hx hb dL_law_1037 rfl (lv_at hl 0 rfl) ?_
  refine lv_iconst (v := 1) hx hb dL_law_1038 (by decide) ?_
  refine lv_iadd hx hb dL_law_1039 ?_
  refine z_topi (y := 1) (by decide +kernel) ?_
  refine va_sld hx hb hXs hbl hbA hS (z_in (a := 1) (by decide) (by decide) (by decide)) dL_law_1040 ?_
  refine z_topi (y := xs 1) rfl ?_
  refine z_finl (w' := fun (_ : Unit) => [(am 0, .inr (9, mf0 am)), (am 25, .inl (cI, 5, .inl (fun _ => 0)))]) (va_runV (As := [.int (xs 1)]) (rest := []) ⟨hx, hb, hml, hown, hts⟩ (c_X8_homes_86 l dC dI cB cI cJ cZ cP cQ ad H.size (xs 1)) (cwV 1 hts gT_X8_homes rfl rfl rfl (by decide +kernel) ⟨Nat.le_of_ble_eq_true rfl, Nat.le_of_ble_eq_true rfl⟩) (z_pV (ci := 8) hK hP hD zX_nil [0, 23, 38] (by decide) rfl rfl 0 rfl) rfl rfl hl.1 rfl (lv_room (Nat.le_of_ble_eq_true rfl)) dL_law_1041 ⟨Nat.le_of_ble_eq_true rfl, Nat.le_of_ble_eq_true rfl⟩) hP hD hS hA [0, 23, 38] [53, 78] [0, 1] rfl rfl (by decide) (by decide) (fun _ => rfl) (by decide) (fun r1 u2 H locs hp3 hP hD hS => ?_)
  have hP : va_P (dC, dI) vwCl [(am 0, .inr (9, mf0 am)), (am 25, .inl (cI, 5, .inl (fun _ => 0)))] H := hP
  have hD : va_D (fun q : Nat => s.heap.size ≤ q) [(am 0, .inr (9, mf0 am)), (am 25, .inl (cI, 5, .inl (fun _ => 0)))] := hD
  refine W.widen (k := 90) (n := 14039) (by decide) (by decide) ?_
  refine lv_aload_n hx hb dL_law_1044 rfl (lv_at hl 1 rfl) ?_
  refine lv_aload_n hx hb dL_law_1045 rfl (lv_at hl 3 rfl) ?_
  refine lv_iload_n hx hb dL_law_1046 rfl (lv_at hl 0 rfl) ?_
  refine lv_iconst (v := 1) hx hb dL_law_1047 (by decide) ?_
  refine lv_iadd hx hb dL_law_1048 ?_
  refine z_topi (y := 1) (by decide +kernel) ?_
  refine va_sld hx hb hXs hbl hbA hS (z_in (a := 1) (by decide) (by decide) (by decide)) dL_law_1049 ?_
  refine z_topi (y := xs 1) rfl ?_
  refine z_finl (w' := fun (_ : Unit) => []) (va_runV (As := [.int (xs 1)]) (rest := [.long r1]) ⟨hx, hb, hml, hown, hts⟩ (c_X9_homes_204 l dC dI cB cI cJ cZ cP cQ am H.size (xs 1)) (cwV 1 hts gT_X9_homes rfl rfl rfl (by decide +kernel) ⟨Nat.le_of_ble_eq_true rfl, Nat.le_of_ble_eq_true rfl⟩) (z_pV (ci := 9) hK hP hD zX_nil [0, 1] (by decide) rfl rfl 0 rfl) rfl rfl hl.1 rfl (lv_room (Nat.le_of_ble_eq_true rfl)) dL_law_1050 ⟨Nat.le_of_ble_eq_true rfl, Nat.le_of_ble_eq_true rfl⟩) hP hD hS hA [0, 1] [] [] rfl rfl (by decide) (by decide) (fun _ => rfl) (by decide) (fun r4 u5 H locs hp6 hP hD hS => ?_)
  have hP : va_P (dC, dI) vwCl [] H := hP
  have hD : va_D (fun q : Nat => s.heap.size ≤ q) [] := hD
  refine W.widen (k := 90) (n := 14039) (by decide) (by decide) ?_
  have heq : r1 = r4 := by
    rcases hp3 with ⟨rfl, a0⟩ | ⟨rfl, a0, a1⟩ | ⟨rfl, a0, a1⟩ <;> (rcases hp6 with ⟨rfl, b0⟩ | ⟨rfl, b0, b1⟩ | ⟨rfl, b0, b1⟩ <;> first | rfl | (exfalso; omega))
  refine W.lcmp hx hb dL_law_1053 ?_
  refine z_topi (y := 0) (by rw [heq]; exact z_cmp0) ?_
  refine lv_if_eq (tgt := 1625) hx hb dL_law_1054 (by decide) (fun _ => ?_) (fun c => absurd (by decide) c)
  exact law_tail C0 hS (by decide) (by decide) (lv_sub hl [0, 1, 2, 3] rfl)
set_option maxHeartbeats 4000000 in
set_option maxRecDepth 100000 in
theorem law_case27 {p : Program} {e : Env} {s : State} {m : MethodId} {below : List Frame} {meth : Method} {c : Code} {b : Nat} {xs : Nat → Int32} (l : Launch) (dC : Nat → ClassId) (dI : Nat → Nat → Nat) (cB cI cJ cZ cP cQ : ClassId) (ad am : Nat → Nat) (C0 : lw_At p s m meth c b 6 xs) (H : Heap) (locs : List Loc) (hK : va_K (dC, dI) vwCl (zT cB cI cJ cZ cP cQ) s) (hP : va_P (dC, dI) vwCl (zxw cB cI cJ cZ cP cQ ad ++ zmw cB cI cJ cZ cP cQ am) H) (hD : va_D (fun q : Nat => s.heap.size ≤ q) (zxw cB cI cJ cZ cP cQ ad ++ zmw cB cI cJ cZ cP cQ am)) (hS : va_S (fun q : Nat => s.heap.size ≤ q) s.heap H locs) (hX : zX [(RX1, 44, yX8_thousandths, "MonthPush"), (RX2, 18, yX5_init, "MonthPush"), (RX8, 380, yX2_init, "MonthPush")] [] s) (ls : Array Slot) (hl : lv_has ls 4 [(3, .int 0), (2, .ref (am 0)), (1, .ref (ad 0)), (0, .ref b)]) : W p l e room_1 s m #[Value.ref b] below meth c H locs 90 14039 (lw_Z below #[Value.ref b] s) (F0 m 1059 ls []) := by
  obtain ⟨hx, hb, hr, hml, hown, hts, hXs, hbl, hlocks, hgv⟩ := id C0
  have hown : s.vm.findClass RL = some m.cls := hown
  have hA : ∀ q : Nat, s.heap.size ≤ q → (fun q : Nat => s.heap.size ≤ q) q := fun _ h => h
  have hbA : ¬ (fun q : Nat => s.heap.size ≤ q) b := Nat.not_le.mpr hbl
  refine lv_aload_n hx hb dL_law_1059 rfl (lv_at hl 2 rfl) ?_
  refine lv_aload_n hx hb dL_law_1060 rfl (lv_at hl 3 rfl) ?_
  refine lv_iload_n hx hb dL_law_1061 rfl (lv_at hl 0 rfl) ?_
  refine lv_iconst (v := 1) hx hb dL_law_1062 (by decide) ?_
  refine lv_iadd hx hb dL_law_1063 ?_
  refine z_topi (y := 1) (by decide +kernel) ?_
  refine va_sld hx hb hXs hbl hbA hS (z_in (a := 1) (by decide) (by decide) (by decide)) dL_law_1064 ?_
  refine z_topi (y := xs 1) rfl ?_
  refine z_fini (w' := fun (_ : Unit) => [(am 0, .inr (9, mf0 am)), (am 25, .inl (cI, 5, .inl (fun _ => 0)))]) (va_runV (As := [.int (xs 1)]) (rest := []) ⟨hx, hb, hml, hown, hts⟩ (c_X8_whom_88 l dC dI cB cI cJ cZ cP cQ ad H.size (xs 1)) (cwV 1 hts gT_X8_whom rfl rfl rfl (by decide +kernel) ⟨Nat.le_of_ble_eq_true rfl, Nat.le_of_ble_eq_true rfl⟩) (z_pV (ci := 8) hK hP hD zX_nil [0, 23] (by decide) rfl rfl 0 rfl) rfl rfl hl.1 rfl (lv_room (Nat.le_of_ble_eq_true rfl)) dL_law_1065 ⟨Nat.le_of_ble_eq_true rfl, Nat.le_of_ble_eq_true rfl⟩) hP hD hS hA [0, 23] [53, 78] [0, 1] rfl rfl (by decide) (by decide) (fun _ => rfl) (by decide) (fun r1 u2 H locs hp3 hP hD hS => ?_)
  have hP : va_P (dC, dI) vwCl [(am 0, .inr (9, mf0 am)), (am 25, .inl (cI, 5, .inl (fun _ => 0)))] H := hP
  have hD : va_D (fun q : Nat => s.heap.size ≤ q) [(am 0, .inr (9, mf0 am)), (am 25, .inl (cI, 5, .inl (fun _ => 0)))] := hD
  refine W.widen (k := 90) (n := 14039) (by decide) (by decide) ?_
  refine lv_aload_n hx hb dL_law_1068 rfl (lv_at hl 1 rfl) ?_
  refine lv_aload_n hx hb dL_law_1069 rfl (lv_at hl 3 rfl) ?_
  refine lv_iload_n hx hb dL_law_1070 rfl (lv_at hl 0 rfl) ?_
  refine lv_iconst (v := 1) hx hb dL_law_1071 (by decide) ?_
  refine lv_iadd hx hb dL_law_1072 ?_
  refine z_topi (y := 1) (by decide +kernel) ?_
  refine va_sld hx hb hXs hbl hbA hS (z_in (a := 1) (by decide) (by decide) (by decide)) dL_law_1073 ?_
  refine z_topi (y := xs 1) rfl ?_
  refine z_fini (w' := fun (_ : Unit) => []) (va_runV (As := [.int (xs 1)]) (rest := [.int r1]) ⟨hx, hb, hml, hown, hts⟩ (c_X9_whom_233 l dC dI cB cI cJ cZ cP cQ am H.size (xs 1)) (cwV 1 hts gT_X9_whom rfl rfl rfl (by decide +kernel) ⟨Nat.le_of_ble_eq_true rfl, Nat.le_of_ble_eq_true rfl⟩) (z_pV (ci := 9) hK hP hD zX_nil [0, 1] (by decide) rfl rfl 0 rfl) rfl rfl hl.1 rfl (lv_room (Nat.le_of_ble_eq_true rfl)) dL_law_1074 ⟨Nat.le_of_ble_eq_true rfl, Nat.le_of_ble_eq_true rfl⟩) hP hD hS hA [0, 1] [] [] rfl rfl (by decide) (by decide) (fun _ => rfl) (by decide) (fun r4 u5 H locs hp6 hP hD hS => ?_)
  have hP : va_P (dC, dI) vwCl [] H := hP
  have hD : va_D (fun q : Nat => s.heap.size ≤ q) [] := hD
  refine W.widen (k := 90) (n := 14039) (by decide) (by decide) ?_
  have heq : r1 = r4 := by
    rcases hp3 with ⟨rfl, a0⟩ | ⟨rfl, a0, a1⟩ | ⟨rfl, a0, a1⟩ <;> (rcases hp6 with ⟨rfl, b0⟩ | ⟨rfl, b0, b1⟩ | ⟨rfl, b0, b1⟩ <;> first | rfl | (exfalso; omega))
  refine lv_icmp_eq (tgt := 1625) hx hb dL_law_1077 (by decide) (fun _ => ?_) (fun c => absurd heq c)
  exact law_tail C0 hS (by decide) (by decide) (lv_sub hl [0, 1, 2, 3] rfl)
set_option maxHeartbeats 4000000 in
set_option maxRecDepth 100000 in
theorem law_case28 {p : Program} {e : Env} {s : State} {m : MethodId} {below : List Frame} {meth : Method} {c : Code} {b : Nat} {xs : Nat → Int32} (l : Launch) (dC : Nat → ClassId) (dI : Nat → Nat → Nat) (cB cI cJ cZ cP cQ : ClassId) (ad am : Nat → Nat) (C0 : lw_At p s m meth c b 6 xs) (H : Heap) (locs : List Loc) (hK : va_K (dC, dI) vwCl (zT cB cI cJ cZ cP cQ) s) (hP : va_P (dC, dI) vwCl (zxw cB cI cJ cZ cP cQ ad ++ zmw cB cI cJ cZ cP cQ am) H) (hD : va_D (fun q : Nat => s.heap.size ≤ q) (zxw cB cI cJ cZ cP cQ ad ++ zmw cB cI cJ cZ cP cQ am)) (hS : va_S (fun q : Nat => s.heap.size ≤ q) s.heap H locs) (hX : zX [(RX1, 44, yX8_thousandths, "MonthPush"), (RX2, 18, yX5_init, "MonthPush"), (RX8, 380, yX2_init, "MonthPush")] [] s) (ls : Array Slot) (hl : lv_has ls 4 [(3, .int 0), (2, .ref (am 0)), (1, .ref (ad 0)), (0, .ref b)]) : W p l e room_1 s m #[Value.ref b] below meth c H locs 90 14039 (lw_Z below #[Value.ref b] s) (F0 m 1082 ls []) := by
  obtain ⟨hx, hb, hr, hml, hown, hts, hXs, hbl, hlocks, hgv⟩ := id C0
  have hown : s.vm.findClass RL = some m.cls := hown
  have hA : ∀ q : Nat, s.heap.size ≤ q → (fun q : Nat => s.heap.size ≤ q) q := fun _ h => h
  have hbA : ¬ (fun q : Nat => s.heap.size ≤ q) b := Nat.not_le.mpr hbl
  refine lv_aload_n hx hb dL_law_1082 rfl (lv_at hl 2 rfl) ?_
  refine lv_aload_n hx hb dL_law_1083 rfl (lv_at hl 3 rfl) ?_
  refine lv_iload_n hx hb dL_law_1084 rfl (lv_at hl 0 rfl) ?_
  refine lv_iconst (v := 1) hx hb dL_law_1085 (by decide) ?_
  refine lv_iadd hx hb dL_law_1086 ?_
  refine z_topi (y := 1) (by decide +kernel) ?_
  refine va_sld hx hb hXs hbl hbA hS (z_in (a := 1) (by decide) (by decide) (by decide)) dL_law_1087 ?_
  refine z_topi (y := xs 1) rfl ?_
  refine lv_if_eq (tgt := 1095) hx hb dL_law_1088 (by decide) (fun c_1 => ?_) (fun c_1 => ?_)
  · have f2 : (xs 1).toInt = 0 := z_eq rfl (by decide) c_1
    refine lv_iconst (v := 0) hx hb dL_law_1095 (by decide) ?_
    refine z_finl (w' := fun (_ : Unit) => [(am 0, .inr (9, mf0 am)), (am 25, .inl (cI, 5, .inl (fun _ => 0)))]) (va_runV (As := [.int 0]) (rest := []) ⟨hx, hb, hml, hown, hts⟩ (c_X8_truth_90 l dC dI cB cI cJ cZ cP cQ ad H.size) (cwV 1 hts gT_X8_truth rfl rfl rfl (by decide +kernel) ⟨Nat.le_of_ble_eq_true rfl, Nat.le_of_ble_eq_true rfl⟩) (z_pV (ci := 8) hK hP hD zX_nil [0, 23] (by decide) rfl rfl 0 rfl) rfl rfl hl.1 rfl (lv_room (Nat.le_of_ble_eq_true rfl)) dL_law_1096 ⟨Nat.le_of_ble_eq_true rfl, Nat.le_of_ble_eq_true rfl⟩) hP hD hS hA [0, 23] [53, 78] [0, 1] rfl rfl (by decide) (by decide) (fun _ => rfl) (by decide) (fun r3 u4 H locs hp5 hP hD hS => ?_)
    have hP : va_P (dC, dI) vwCl [(am 0, .inr (9, mf0 am)), (am 25, .inl (cI, 5, .inl (fun _ => 0)))] H := hP
    have hD : va_D (fun q : Nat => s.heap.size ≤ q) [(am 0, .inr (9, mf0 am)), (am 25, .inl (cI, 5, .inl (fun _ => 0)))] := hD
    refine W.widen (k := 90) (n := 14039) (by decide) (by decide) ?_
    refine lv_aload_n hx hb dL_law_1099 rfl (lv_at hl 1 rfl) ?_
    refine lv_aload_n hx hb dL_law_1100 rfl (lv_at hl 3 rfl) ?_
    refine lv_iload_n hx hb dL_law_1101 rfl (lv_at hl 0 rfl) ?_
    refine lv_iconst (v := 1) hx hb dL_law_1102 (by decide) ?_
    refine lv_iadd hx hb dL_law_1103 ?_
    refine z_topi (y := 1) (by decide +kernel) ?_
    refine va_sld hx hb hXs hbl hbA hS (z_in (a := 1) (by decide) (by decide) (by decide)) dL_law_1104 ?_
    refine z_topi (y := xs 1) rfl ?_
    refine lv_if_eq (tgt := 1112) hx hb dL_law_1105 (by decide) (fun c_6 => ?_) (fun c_6 => ?_)
    · have f7 : (xs 1).toInt = 0 := z_eq rfl (by decide) c_6
      refine lv_iconst (v := 0) hx hb dL_law_1112 (by decide) ?_
      refine z_finl (w' := fun (_ : Unit) => []) (va_runV (As := [.int 0]) (rest := [.long r3]) ⟨hx, hb, hml, hown, hts⟩ (c_X9_truth_235 l dC dI cB cI cJ cZ cP cQ am H.size) (cwV 1 hts gT_X9_truth rfl rfl rfl (by decide +kernel) ⟨Nat.le_of_ble_eq_true rfl, Nat.le_of_ble_eq_true rfl⟩) (z_pV (ci := 9) hK hP hD zX_nil [0, 1] (by decide) rfl rfl 0 rfl) rfl rfl hl.1 rfl (lv_room (Nat.le_of_ble_eq_true rfl)) dL_law_1113 ⟨Nat.le_of_ble_eq_true rfl, Nat.le_of_ble_eq_true rfl⟩) hP hD hS hA [0, 1] [] [] rfl rfl (by decide) (by decide) (fun _ => rfl) (by decide) (fun r8 u9 H locs hp10 hP hD hS => ?_)
      have hP : va_P (dC, dI) vwCl [] H := hP
      have hD : va_D (fun q : Nat => s.heap.size ≤ q) [] := hD
      refine W.widen (k := 90) (n := 14039) (by decide) (by decide) ?_
      have heq : r3 = r8 := by
        obtain rfl : r3 = (-2000000000) := hp5 <;> (obtain rfl : r8 = (-2000000000) := hp10 <;> first | rfl | (exfalso; omega))
      refine W.lcmp hx hb dL_law_1116 ?_
      refine z_topi (y := 0) (by rw [heq]; exact z_cmp0) ?_
      refine lv_if_eq (tgt := 1625) hx hb dL_law_1117 (by decide) (fun _ => ?_) (fun c => absurd (by decide) c)
      exact law_tail C0 hS (by decide) (by decide) (lv_sub hl [0, 1, 2, 3] rfl)
    · have f7 : ¬ (xs 1).toInt = 0 := z_ne rfl (by decide) c_6
      refine lv_iconst (v := 1) hx hb dL_law_1108 (by decide) ?_
      refine lv_goto (tgt := 1113) hx hb dL_law_1109 (by decide) ?_
      refine z_finl (w' := fun (_ : Unit) => []) (va_runV (As := [.int 1]) (rest := [.long r3]) ⟨hx, hb, hml, hown, hts⟩ (c_X9_truth_237 l dC dI cB cI cJ cZ cP cQ am H.size) (cwV 1 hts gT_X9_truth rfl rfl rfl (by decide +kernel) ⟨Nat.le_of_ble_eq_true rfl, Nat.le_of_ble_eq_true rfl⟩) (z_pV (ci := 9) hK hP hD zX_nil [0, 1] (by decide) rfl rfl 0 rfl) rfl rfl hl.1 rfl (lv_room (Nat.le_of_ble_eq_true rfl)) dL_law_1113 ⟨Nat.le_of_ble_eq_true rfl, Nat.le_of_ble_eq_true rfl⟩) hP hD hS hA [0, 1] [] [] rfl rfl (by decide) (by decide) (fun _ => rfl) (by decide) (fun r11 u12 H locs hp13 hP hD hS => ?_)
      have hP : va_P (dC, dI) vwCl [] H := hP
      have hD : va_D (fun q : Nat => s.heap.size ≤ q) [] := hD
      refine W.widen (k := 90) (n := 14039) (by decide) (by decide) ?_
      have heq : r3 = r11 := by
        obtain rfl : r3 = (-2000000000) := hp5 <;> (obtain rfl : r11 = (-2000000000) := hp13 <;> first | rfl | (exfalso; omega))
      refine W.lcmp hx hb dL_law_1116 ?_
      refine z_topi (y := 0) (by rw [heq]; exact z_cmp0) ?_
      refine lv_if_eq (tgt := 1625) hx hb dL_law_1117 (by decide) (fun _ => ?_) (fun c => absurd (by decide) c)
      exact law_tail C0 hS (by decide) (by decide) (lv_sub hl [0, 1, 2, 3] rfl)
  · have f2 : ¬ (xs 1).toInt = 0 := z_ne rfl (by decide) c_1
    refine lv_iconst (v := 1) hx hb dL_law_1091 (by decide) ?_
    refine lv_goto (tgt := 1096) hx hb dL_law_1092 (by decide) ?_
    refine z_finl (w' := fun (_ : Unit) => [(am 0, .inr (9, mf0 am)), (am 25, .inl (cI, 5, .inl (fun _ => 0)))]) (va_runV (As := [.int 1]) (rest := []) ⟨hx, hb, hml, hown, hts⟩ (c_X8_truth_92 l dC dI cB cI cJ cZ cP cQ ad H.size) (cwV 1 hts gT_X8_truth rfl rfl rfl (by decide +kernel) ⟨Nat.le_of_ble_eq_true rfl, Nat.le_of_ble_eq_true rfl⟩) (z_pV (ci := 8) hK hP hD zX_nil [0, 23] (by decide) rfl rfl 0 rfl) rfl rfl hl.1 rfl (lv_room (Nat.le_of_ble_eq_true rfl)) dL_law_1096 ⟨Nat.le_of_ble_eq_true rfl, Nat.le_of_ble_eq_true rfl⟩) hP hD hS hA [0, 23] [53, 78] [0, 1] rfl rfl (by decide) (by decide) (fun _ => rfl) (by decide) (fun r14 u15 H locs hp16 hP hD hS => ?_)
    have hP : va_P (dC, dI) vwCl [(am 0, .inr (9, mf0 am)), (am 25, .inl (cI, 5, .inl (fun _ => 0)))] H := hP
    have hD : va_D (fun q : Nat => s.heap.size ≤ q) [(am 0, .inr (9, mf0 am)), (am 25, .inl (cI, 5, .inl (fun _ => 0)))] := hD
    refine W.widen (k := 90) (n := 14039) (by decide) (by decide) ?_
    refine lv_aload_n hx hb dL_law_1099 rfl (lv_at hl 1 rfl) ?_
    refine lv_aload_n hx hb dL_law_1100 rfl (lv_at hl 3 rfl) ?_
    refine lv_iload_n hx hb dL_law_1101 rfl (lv_at hl 0 rfl) ?_
    refine lv_iconst (v := 1) hx hb dL_law_1102 (by decide) ?_
    refine lv_iadd hx hb dL_law_1103 ?_
    refine z_topi (y := 1) (by decide +kernel) ?_
    refine va_sld hx hb hXs hbl hbA hS (z_in (a := 1) (by decide) (by decide) (by decide)) dL_law_1104 ?_
    refine z_topi (y := xs 1) rfl ?_
    refine lv_if_eq (tgt := 1112) hx hb dL_law_1105 (by decide) (fun c_17 => ?_) (fun c_17 => ?_)
    · have f18 : (xs 1).toInt = 0 := z_eq rfl (by decide) c_17
      refine lv_iconst (v := 0) hx hb dL_law_1112 (by decide) ?_
      refine z_finl (w' := fun (_ : Unit) => []) (va_runV (As := [.int 0]) (rest := [.long r14]) ⟨hx, hb, hml, hown, hts⟩ (c_X9_truth_235 l dC dI cB cI cJ cZ cP cQ am H.size) (cwV 1 hts gT_X9_truth rfl rfl rfl (by decide +kernel) ⟨Nat.le_of_ble_eq_true rfl, Nat.le_of_ble_eq_true rfl⟩) (z_pV (ci := 9) hK hP hD zX_nil [0, 1] (by decide) rfl rfl 0 rfl) rfl rfl hl.1 rfl (lv_room (Nat.le_of_ble_eq_true rfl)) dL_law_1113 ⟨Nat.le_of_ble_eq_true rfl, Nat.le_of_ble_eq_true rfl⟩) hP hD hS hA [0, 1] [] [] rfl rfl (by decide) (by decide) (fun _ => rfl) (by decide) (fun r19 u20 H locs hp21 hP hD hS => ?_)
      have hP : va_P (dC, dI) vwCl [] H := hP
      have hD : va_D (fun q : Nat => s.heap.size ≤ q) [] := hD
      refine W.widen (k := 90) (n := 14039) (by decide) (by decide) ?_
      have heq : r14 = r19 := by
        obtain rfl : r14 = (-2000000000) := hp16 <;> (obtain rfl : r19 = (-2000000000) := hp21 <;> first | rfl | (exfalso; omega))
      refine W.lcmp hx hb dL_law_1116 ?_
      refine z_topi (y := 0) (by rw [heq]; exact z_cmp0) ?_
      refine lv_if_eq (tgt := 1625) hx hb dL_law_1117 (by decide) (fun _ => ?_) (fun c => absurd (by decide) c)
      exact law_tail C0 hS (by decide) (by decide) (lv_sub hl [0, 1, 2, 3] rfl)
    · have f18 : ¬ (xs 1).toInt = 0 := z_ne rfl (by decide) c_17
      refine lv_iconst (v := 1) hx hb dL_law_1108 (by decide) ?_
      refine lv_goto (tgt := 1113) hx hb dL_law_1109 (by decide) ?_
      refine z_finl (w' := fun (_ : Unit) => []) (va_runV (As := [.int 1]) (rest := [.long r14]) ⟨hx, hb, hml, hown, hts⟩ (c_X9_truth_237 l dC dI cB cI cJ cZ cP cQ am H.size) (cwV 1 hts gT_X9_truth rfl rfl rfl (by decide +kernel) ⟨Nat.le_of_ble_eq_true rfl, Nat.le_of_ble_eq_true rfl⟩) (z_pV (ci := 9) hK hP hD zX_nil [0, 1] (by decide) rfl rfl 0 rfl) rfl rfl hl.1 rfl (lv_room (Nat.le_of_ble_eq_true rfl)) dL_law_1113 ⟨Nat.le_of_ble_eq_true rfl, Nat.le_of_ble_eq_true rfl⟩) hP hD hS hA [0, 1] [] [] rfl rfl (by decide) (by decide) (fun _ => rfl) (by decide) (fun r22 u23 H locs hp24 hP hD hS => ?_)
      have hP : va_P (dC, dI) vwCl [] H := hP
      have hD : va_D (fun q : Nat => s.heap.size ≤ q) [] := hD
      refine W.widen (k := 90) (n := 14039) (by decide) (by decide) ?_
      have heq : r14 = r22 := by
        obtain rfl : r14 = (-2000000000) := hp16 <;> (obtain rfl : r22 = (-2000000000) := hp24 <;> first | rfl | (exfalso; omega))
      refine W.lcmp hx hb dL_law_1116 ?_
      refine z_topi (y := 0) (by rw [heq]; exact z_cmp0) ?_
      refine lv_if_eq (tgt := 1625) hx hb dL_law_1117 (by decide) (fun _ => ?_) (fun c => absurd (by decide) c)
      exact law_tail C0 hS (by decide) (by decide) (lv_sub hl [0, 1, 2, 3] rfl)
set_option maxHeartbeats 4000000 in
set_option maxRecDepth 100000 in
theorem law_case29 {p : Program} {e : Env} {s : State} {m : MethodId} {below : List Frame} {meth : Method} {c : Code} {b : Nat} {xs : Nat → Int32} (l : Launch) (dC : Nat → ClassId) (dI : Nat → Nat → Nat) (cB cI cJ cZ cP cQ : ClassId) (ad am : Nat → Nat) (C0 : lw_At p s m meth c b 6 xs) (H : Heap) (locs : List Loc) (hK : va_K (dC, dI) vwCl (zT cB cI cJ cZ cP cQ) s) (hP : va_P (dC, dI) vwCl (zxw cB cI cJ cZ cP cQ ad ++ zmw cB cI cJ cZ cP cQ am) H) (hD : va_D (fun q : Nat => s.heap.size ≤ q) (zxw cB cI cJ cZ cP cQ ad ++ zmw cB cI cJ cZ cP cQ am)) (hS : va_S (fun q : Nat => s.heap.size ≤ q) s.heap H locs) (hX : zX [(RX1, 44, yX8_thousandths, "MonthPush"), (RX2, 18, yX5_init, "MonthPush"), (RX8, 380, yX2_init, "MonthPush")] [] s) (ls : Array Slot) (hl : lv_has ls 4 [(3, .int 0), (2, .ref (am 0)), (1, .ref (ad 0)), (0, .ref b)]) : W p l e room_1 s m #[Value.ref b] below meth c H locs 90 14039 (lw_Z below #[Value.ref b] s) (F0 m 1122 ls []) := by
  obtain ⟨hx, hb, hr, hml, hown, hts, hXs, hbl, hlocks, hgv⟩ := id C0
  have hown : s.vm.findClass RL = some m.cls := hown
  have hA : ∀ q : Nat, s.heap.size ≤ q → (fun q : Nat => s.heap.size ≤ q) q := fun _ h => h
  have hbA : ¬ (fun q : Nat => s.heap.size ≤ q) b := Nat.not_le.mpr hbl
  refine lv_aload_n hx hb dL_law_1122 rfl (lv_at hl 2 rfl) ?_
  refine lv_aload_n hx hb dL_law_1123 rfl (lv_at hl 3 rfl) ?_
  refine lv_iload_n hx hb dL_law_1124 rfl (lv_at hl 0 rfl) ?_
  refine lv_iconst (v := 1) hx hb dL_law_1125 (by decide) ?_
  refine lv_iadd hx hb dL_law_1126 ?_
  refine z_topi (y := 1) (by decide +kernel) ?_
  refine va_sld hx hb hXs hbl hbA hS (z_in (a := 1) (by decide) (by decide) (by decide)) dL_law_1127 ?_
  refine z_topi (y := xs 1) rfl ?_
  refine lv_aload_n hx hb dL_law_1128 rfl (lv_at hl 3 rfl) ?_
  refine lv_iload_n hx hb dL_law_1129 rfl (lv_at hl 0 rfl) ?_
  refine lv_iconst (v := 2) hx hb dL_law_1130 (by decide) ?_
  refine lv_iadd hx hb dL_law_1131 ?_
  refine z_topi (y := 2) (by decide +kernel) ?_
  refine va_sld hx hb hXs hbl hbA hS (z_in (a := 2) (by decide) (by decide) (by decide)) dL_law_1132 ?_
  refine z_topi (y := xs 2) rfl ?_
  refine z_finl (w' := fun (_ : Unit) => [(am 0, .inr (9, mf0 am)), (am 25, .inl (cI, 5, .inl (fun _ => 0))), (am 33, .inl (cJ, 72, .inr (.inl (fun _ => 0)))), (am 34, .inl (cJ, 72, .inr (.inl (fun _ => 0)))), (am 35, .inl (cJ, 72, .inr (.inl (fun _ => 0))))]) (va_runV (As := [.int (xs 1), .int (xs 2)]) (rest := []) ⟨hx, hb, hml, hown, hts⟩ (c_X8_leans_95 l dC dI cB cI cJ cZ cP cQ ad H.size (xs 1) (xs 2)) (cwV 2 hts gT_X8_leans rfl rfl rfl (by decide +kernel) ⟨Nat.le_of_ble_eq_true rfl, Nat.le_of_ble_eq_true rfl⟩) (z_pV (ci := 8) hK hP hD (zX_sub hX (by decide +kernel) (by decide +kernel)) [0, 23, 38, 39, 40, 41, 42] (by decide) rfl rfl 0 rfl) rfl rfl hl.1 rfl (lv_room (Nat.le_of_ble_eq_true rfl)) dL_law_1133 ⟨Nat.le_of_ble_eq_true rfl, Nat.le_of_ble_eq_true rfl⟩) hP hD hS hA [0, 23, 38, 39, 40, 41, 42] [53, 78, 86, 87, 88] [0, 1, 2, 3, 4] rfl rfl (by decide) (by decide) (fun _ => rfl) (by decide) (fun r1 u2 H locs hp3 hP hD hS => ?_)
  have hP : va_P (dC, dI) vwCl [(am 0, .inr (9, mf0 am)), (am 25, .inl (cI, 5, .inl (fun _ => 0))), (am 33, .inl (cJ, 72, .inr (.inl (fun _ => 0)))), (am 34, .inl (cJ, 72, .inr (.inl (fun _ => 0)))), (am 35, .inl (cJ, 72, .inr (.inl (fun _ => 0))))] H := hP
  have hD : va_D (fun q : Nat => s.heap.size ≤ q) [(am 0, .inr (9, mf0 am)), (am 25, .inl (cI, 5, .inl (fun _ => 0))), (am 33, .inl (cJ, 72, .inr (.inl (fun _ => 0)))), (am 34, .inl (cJ, 72, .inr (.inl (fun _ => 0)))), (am 35, .inl (cJ, 72, .inr (.inl (fun _ => 0))))] := hD
  refine W.widen (k := 90) (n := 14039) (by decide) (by decide) ?_
  refine lv_aload_n hx hb dL_law_1136 rfl (lv_at hl 1 rfl) ?_
  refine lv_aload_n hx hb dL_law_1137 rfl (lv_at hl 3 rfl) ?_
  refine lv_iload_n hx hb dL_law_1138 rfl (lv_at hl 0 rfl) ?_
  refine lv_iconst (v := 1) hx hb dL_law_1139 (by decide) ?_
  refine lv_iadd hx hb dL_law_1140 ?_
  refine z_topi (y := 1) (by decide +kernel) ?_
  refine va_sld hx hb hXs hbl hbA hS (z_in (a := 1) (by decide) (by decide) (by decide)) dL_law_1141 ?_
  refine z_topi (y := xs 1) rfl ?_
  refine lv_aload_n hx hb dL_law_1142 rfl (lv_at hl 3 rfl) ?_
  refine lv_iload_n hx hb dL_law_1143 rfl (lv_at hl 0 rfl) ?_
  refine lv_iconst (v := 2) hx hb dL_law_1144 (by decide) ?_
  refine lv_iadd hx hb dL_law_1145 ?_
  refine z_topi (y := 2) (by decide +kernel) ?_
  refine va_sld hx hb hXs hbl hbA hS (z_in (a := 2) (by decide) (by decide) (by decide)) dL_law_1146 ?_
  refine z_topi (y := xs 2) rfl ?_
  refine z_finl (w' := fun (_ : Unit) => []) (va_runV (As := [.int (xs 1), .int (xs 2)]) (rest := [.long r1]) ⟨hx, hb, hml, hown, hts⟩ (c_X9_leans_239 l dC dI cB cI cJ cZ cP cQ am H.size (xs 1) (xs 2)) (cwV 2 hts gT_X9_leans rfl rfl rfl (by decide +kernel) ⟨Nat.le_of_ble_eq_true rfl, Nat.le_of_ble_eq_true rfl⟩) (z_pV (ci := 9) hK hP hD zX_nil [0, 1, 2, 3, 4] (by decide) rfl rfl 0 rfl) rfl rfl hl.1 rfl (lv_room (Nat.le_of_ble_eq_true rfl)) dL_law_1147 ⟨Nat.le_of_ble_eq_true rfl, Nat.le_of_ble_eq_true rfl⟩) hP hD hS hA [0, 1, 2, 3, 4] [] [] rfl rfl (by decide) (by decide) (fun _ => rfl) (by decide) (fun r4 u5 H locs hp6 hP hD hS => ?_)
  have hP : va_P (dC, dI) vwCl [] H := hP
  have hD : va_D (fun q : Nat => s.heap.size ≤ q) [] := hD
  refine W.widen (k := 90) (n := 14039) (by decide) (by decide) ?_
  have heq : r1 = r4 := by
    rcases hp3 with ⟨rfl, a0⟩ | ⟨rfl, a0, a1⟩ | ⟨rfl, a0, a1, a2⟩ | ⟨rfl, a0, a1, a2⟩ | ⟨rfl, a0⟩ | ⟨rfl, a0⟩ <;> (rcases hp6 with ⟨rfl, b0⟩ | ⟨rfl, b0, b1⟩ | ⟨rfl, b0, b1, b2, b3⟩ | ⟨rfl, b0, b1, b2, b3, b4⟩ | ⟨rfl, b0, b1, b2, b3, b4, b5⟩ | ⟨rfl, b0, b1, b2, b3, b4, b5⟩ | ⟨rfl, b0, b1, b2⟩ <;> first | rfl | (exfalso; omega))
  refine W.lcmp hx hb dL_law_1150 ?_
  refine z_topi (y := 0) (by rw [heq]; exact z_cmp0) ?_
  refine lv_if_eq (tgt := 1625) hx hb dL_law_1151 (by decide) (fun _ => ?_) (fun c => absurd (by decide) c)
  exact law_tail C0 hS (by decide) (by decide) (lv_sub hl [0, 1, 2, 3] rfl)
set_option maxHeartbeats 4000000 in
set_option maxRecDepth 100000 in
theorem law_case30 {p : Program} {e : Env} {s : State} {m : MethodId} {below : List Frame} {meth : Method} {c : Code} {b : Nat} {xs : Nat → Int32} (l : Launch) (dC : Nat → ClassId) (dI : Nat → Nat → Nat) (cB cI cJ cZ cP cQ : ClassId) (ad am : Nat → Nat) (C0 : lw_At p s m meth c b 6 xs) (H : Heap) (locs : List Loc) (hK : va_K (dC, dI) vwCl (zT cB cI cJ cZ cP cQ) s) (hP : va_P (dC, dI) vwCl (zxw cB cI cJ cZ cP cQ ad ++ zmw cB cI cJ cZ cP cQ am) H) (hD : va_D (fun q : Nat => s.heap.size ≤ q) (zxw cB cI cJ cZ cP cQ ad ++ zmw cB cI cJ cZ cP cQ am)) (hS : va_S (fun q : Nat => s.heap.size ≤ q) s.heap H locs) (hX : zX [(RX1, 44, yX8_thousandths, "MonthPush"), (RX2, 18, yX5_init, "MonthPush"), (RX8, 380, yX2_init, "MonthPush")] [] s) (ls : Array Slot) (hl : lv_has ls 4 [(3, .int 0), (2, .ref (am 0)), (1, .ref (ad 0)), (0, .ref b)]) : W p l e room_1 s m #[Value.ref b] below meth c H locs 90 14039 (lw_Z below #[Value.ref b] s) (F0 m 1156 ls []) := by
  obtain ⟨hx, hb, hr, hml, hown, hts, hXs, hbl, hlocks, hgv⟩ := id C0
  have hown : s.vm.findClass RL = some m.cls := hown
  have hA : ∀ q : Nat, s.heap.size ≤ q → (fun q : Nat => s.heap.size ≤ q) q := fun _ h => h
  have hbA : ¬ (fun q : Nat => s.heap.size ≤ q) b := Nat.not_le.mpr hbl
  refine lv_aload_n hx hb dL_law_1156 rfl (lv_at hl 2 rfl) ?_
  refine lv_aload_n hx hb dL_law_1157 rfl (lv_at hl 3 rfl) ?_
  refine lv_iload_n hx hb dL_law_1158 rfl (lv_at hl 0 rfl) ?_
  refine lv_iconst (v := 1) hx hb dL_law_1159 (by decide) ?_
  refine lv_iadd hx hb dL_law_1160 ?_
  refine z_topi (y := 1) (by decide +kernel) ?_
  refine va_sld hx hb hXs hbl hbA hS (z_in (a := 1) (by decide) (by decide) (by decide)) dL_law_1161 ?_
  refine z_topi (y := xs 1) rfl ?_
  refine z_fini (w' := fun (_ : Unit) => [(am 0, .inr (9, mf0 am)), (am 25, .inl (cI, 5, .inl (fun _ => 0))), (am 33, .inl (cJ, 72, .inr (.inl (fun _ => 0)))), (am 34, .inl (cJ, 72, .inr (.inl (fun _ => 0)))), (am 35, .inl (cJ, 72, .inr (.inl (fun _ => 0))))]) (va_runV (As := [.int (xs 1)]) (rest := []) ⟨hx, hb, hml, hown, hts⟩ (c_X8_least_102 l dC dI cB cI cJ cZ cP cQ ad H.size (xs 1)) (cwV 1 hts gT_X8_least rfl rfl rfl (by decide +kernel) ⟨Nat.le_of_ble_eq_true rfl, Nat.le_of_ble_eq_true rfl⟩) (z_pV (ci := 8) hK hP hD (zX_sub hX (by decide +kernel) (by decide +kernel)) [0, 23, 38, 39, 40, 41, 42] (by decide) rfl rfl 0 rfl) rfl rfl hl.1 rfl (lv_room (Nat.le_of_ble_eq_true rfl)) dL_law_1162 ⟨Nat.le_of_ble_eq_true rfl, Nat.le_of_ble_eq_true rfl⟩) hP hD hS hA [0, 23, 38, 39, 40, 41, 42] [53, 78, 86, 87, 88] [0, 1, 2, 3, 4] rfl rfl (by decide) (by decide) (fun _ => rfl) (by decide) (fun r1 u2 H locs hp3 hP hD hS => ?_)
  have hP : va_P (dC, dI) vwCl [(am 0, .inr (9, mf0 am)), (am 25, .inl (cI, 5, .inl (fun _ => 0))), (am 33, .inl (cJ, 72, .inr (.inl (fun _ => 0)))), (am 34, .inl (cJ, 72, .inr (.inl (fun _ => 0)))), (am 35, .inl (cJ, 72, .inr (.inl (fun _ => 0))))] H := hP
  have hD : va_D (fun q : Nat => s.heap.size ≤ q) [(am 0, .inr (9, mf0 am)), (am 25, .inl (cI, 5, .inl (fun _ => 0))), (am 33, .inl (cJ, 72, .inr (.inl (fun _ => 0)))), (am 34, .inl (cJ, 72, .inr (.inl (fun _ => 0)))), (am 35, .inl (cJ, 72, .inr (.inl (fun _ => 0))))] := hD
  refine W.widen (k := 90) (n := 14039) (by decide) (by decide) ?_
  refine lv_aload_n hx hb dL_law_1165 rfl (lv_at hl 1 rfl) ?_
  refine lv_aload_n hx hb dL_law_1166 rfl (lv_at hl 3 rfl) ?_
  refine lv_iload_n hx hb dL_law_1167 rfl (lv_at hl 0 rfl) ?_
  refine lv_iconst (v := 1) hx hb dL_law_1168 (by decide) ?_
  refine lv_iadd hx hb dL_law_1169 ?_
  refine z_topi (y := 1) (by decide +kernel) ?_
  refine va_sld hx hb hXs hbl hbA hS (z_in (a := 1) (by decide) (by decide) (by decide)) dL_law_1170 ?_
  refine z_topi (y := xs 1) rfl ?_
  refine z_fini (w' := fun (_ : Unit) => []) (va_runV (As := [.int (xs 1)]) (rest := [.int r1]) ⟨hx, hb, hml, hown, hts⟩ (c_X9_least_243 l dC dI cB cI cJ cZ cP cQ am H.size (xs 1)) (cwV 1 hts gT_X9_least rfl rfl rfl (by decide +kernel) ⟨Nat.le_of_ble_eq_true rfl, Nat.le_of_ble_eq_true rfl⟩) (z_pV (ci := 9) hK hP hD zX_nil [0, 1, 2, 3, 4] (by decide) rfl rfl 0 rfl) rfl rfl hl.1 rfl (lv_room (Nat.le_of_ble_eq_true rfl)) dL_law_1171 ⟨Nat.le_of_ble_eq_true rfl, Nat.le_of_ble_eq_true rfl⟩) hP hD hS hA [0, 1, 2, 3, 4] [] [] rfl rfl (by decide) (by decide) (fun _ => rfl) (by decide) (fun r4 u5 H locs hp6 hP hD hS => ?_)
  have hP : va_P (dC, dI) vwCl [] H := hP
  have hD : va_D (fun q : Nat => s.heap.size ≤ q) [] := hD
  refine W.widen (k := 90) (n := 14039) (by decide) (by decide) ?_
  have heq : r1 = r4 := by
    rcases hp3 with ⟨rfl, a0⟩ | ⟨rfl, a0, a1⟩ | ⟨rfl, a0, a1⟩ <;> (rcases hp6 with ⟨rfl, b0⟩ | ⟨rfl, b0, b1⟩ | ⟨rfl, b0, b1⟩ <;> first | rfl | (exfalso; omega))
  refine lv_icmp_eq (tgt := 1625) hx hb dL_law_1174 (by decide) (fun _ => ?_) (fun c => absurd heq c)
  exact law_tail C0 hS (by decide) (by decide) (lv_sub hl [0, 1, 2, 3] rfl)
set_option maxHeartbeats 4000000 in
set_option maxRecDepth 100000 in
theorem law_case31 {p : Program} {e : Env} {s : State} {m : MethodId} {below : List Frame} {meth : Method} {c : Code} {b : Nat} {xs : Nat → Int32} (l : Launch) (dC : Nat → ClassId) (dI : Nat → Nat → Nat) (cB cI cJ cZ cP cQ : ClassId) (ad am : Nat → Nat) (C0 : lw_At p s m meth c b 6 xs) (H : Heap) (locs : List Loc) (hK : va_K (dC, dI) vwCl (zT cB cI cJ cZ cP cQ) s) (hP : va_P (dC, dI) vwCl (zxw cB cI cJ cZ cP cQ ad ++ zmw cB cI cJ cZ cP cQ am) H) (hD : va_D (fun q : Nat => s.heap.size ≤ q) (zxw cB cI cJ cZ cP cQ ad ++ zmw cB cI cJ cZ cP cQ am)) (hS : va_S (fun q : Nat => s.heap.size ≤ q) s.heap H locs) (hX : zX [(RX1, 44, yX8_thousandths, "MonthPush"), (RX2, 18, yX5_init, "MonthPush"), (RX8, 380, yX2_init, "MonthPush")] [] s) (ls : Array Slot) (hl : lv_has ls 4 [(3, .int 0), (2, .ref (am 0)), (1, .ref (ad 0)), (0, .ref b)]) : W p l e room_1 s m #[Value.ref b] below meth c H locs 90 14039 (lw_Z below #[Value.ref b] s) (F0 m 1179 ls []) := by
  obtain ⟨hx, hb, hr, hml, hown, hts, hXs, hbl, hlocks, hgv⟩ := id C0
  have hown : s.vm.findClass RL = some m.cls := hown
  have hA : ∀ q : Nat, s.heap.size ≤ q → (fun q : Nat => s.heap.size ≤ q) q := fun _ h => h
  have hbA : ¬ (fun q : Nat => s.heap.size ≤ q) b := Nat.not_le.mpr hbl
  refine lv_aload_n hx hb dL_law_1179 rfl (lv_at hl 2 rfl) ?_
  refine lv_aload_n hx hb dL_law_1180 rfl (lv_at hl 3 rfl) ?_
  refine lv_iload_n hx hb dL_law_1181 rfl (lv_at hl 0 rfl) ?_
  refine lv_iconst (v := 1) hx hb dL_law_1182 (by decide) ?_
  refine lv_iadd hx hb dL_law_1183 ?_
  refine z_topi (y := 1) (by decide +kernel) ?_
  refine va_sld hx hb hXs hbl hbA hS (z_in (a := 1) (by decide) (by decide) (by decide)) dL_law_1184 ?_
  refine z_topi (y := xs 1) rfl ?_
  refine lv_aload_n hx hb dL_law_1185 rfl (lv_at hl 3 rfl) ?_
  refine lv_iload_n hx hb dL_law_1186 rfl (lv_at hl 0 rfl) ?_
  refine lv_iconst (v := 2) hx hb dL_law_1187 (by decide) ?_
  refine lv_iadd hx hb dL_law_1188 ?_
  refine z_topi (y := 2) (by decide +kernel) ?_
  refine va_sld hx hb hXs hbl hbA hS (z_in (a := 2) (by decide) (by decide) (by decide)) dL_law_1189 ?_
  refine z_topi (y := xs 2) rfl ?_
  refine z_fini (w' := fun (_ : Unit) => [(am 0, .inr (9, mf0 am)), (am 25, .inl (cI, 5, .inl (fun _ => 0)))]) (va_runV (As := [.int (xs 1), .int (xs 2)]) (rest := []) ⟨hx, hb, hml, hown, hts⟩ (c_X8_beside_103 l dC dI cB cI cJ cZ cP cQ ad H.size (xs 1) (xs 2)) (cwV 2 hts gT_X8_beside rfl rfl rfl (by decide +kernel) ⟨Nat.le_of_ble_eq_true rfl, Nat.le_of_ble_eq_true rfl⟩) (z_pV (ci := 8) hK hP hD zX_nil [0, 23] (by decide) rfl rfl 0 rfl) rfl rfl hl.1 rfl (lv_room (Nat.le_of_ble_eq_true rfl)) dL_law_1190 ⟨Nat.le_of_ble_eq_true rfl, Nat.le_of_ble_eq_true rfl⟩) hP hD hS hA [0, 23] [53, 78] [0, 1] rfl rfl (by decide) (by decide) (fun _ => rfl) (by decide) (fun r1 u2 H locs hp3 hP hD hS => ?_)
  have hP : va_P (dC, dI) vwCl [(am 0, .inr (9, mf0 am)), (am 25, .inl (cI, 5, .inl (fun _ => 0)))] H := hP
  have hD : va_D (fun q : Nat => s.heap.size ≤ q) [(am 0, .inr (9, mf0 am)), (am 25, .inl (cI, 5, .inl (fun _ => 0)))] := hD
  refine W.widen (k := 90) (n := 14039) (by decide) (by decide) ?_
  refine lv_aload_n hx hb dL_law_1193 rfl (lv_at hl 1 rfl) ?_
  refine lv_aload_n hx hb dL_law_1194 rfl (lv_at hl 3 rfl) ?_
  refine lv_iload_n hx hb dL_law_1195 rfl (lv_at hl 0 rfl) ?_
  refine lv_iconst (v := 1) hx hb dL_law_1196 (by decide) ?_
  refine lv_iadd hx hb dL_law_1197 ?_
  refine z_topi (y := 1) (by decide +kernel) ?_
  refine va_sld hx hb hXs hbl hbA hS (z_in (a := 1) (by decide) (by decide) (by decide)) dL_law_1198 ?_
  refine z_topi (y := xs 1) rfl ?_
  refine lv_aload_n hx hb dL_law_1199 rfl (lv_at hl 3 rfl) ?_
  refine lv_iload_n hx hb dL_law_1200 rfl (lv_at hl 0 rfl) ?_
  refine lv_iconst (v := 2) hx hb dL_law_1201 (by decide) ?_
  refine lv_iadd hx hb dL_law_1202 ?_
  refine z_topi (y := 2) (by decide +kernel) ?_
  refine va_sld hx hb hXs hbl hbA hS (z_in (a := 2) (by decide) (by decide) (by decide)) dL_law_1203 ?_
  refine z_topi (y := xs 2) rfl ?_
  refine z_fini (w' := fun (_ : Unit) => []) (va_runV (As := [.int (xs 1), .int (xs 2)]) (rest := [.int r1]) ⟨hx, hb, hml, hown, hts⟩ (c_X9_beside_244 l dC dI cB cI cJ cZ cP cQ am H.size (xs 1) (xs 2)) (cwV 2 hts gT_X9_beside rfl rfl rfl (by decide +kernel) ⟨Nat.le_of_ble_eq_true rfl, Nat.le_of_ble_eq_true rfl⟩) (z_pV (ci := 9) hK hP hD zX_nil [0, 1] (by decide) rfl rfl 0 rfl) rfl rfl hl.1 rfl (lv_room (Nat.le_of_ble_eq_true rfl)) dL_law_1204 ⟨Nat.le_of_ble_eq_true rfl, Nat.le_of_ble_eq_true rfl⟩) hP hD hS hA [0, 1] [] [] rfl rfl (by decide) (by decide) (fun _ => rfl) (by decide) (fun r4 u5 H locs hp6 hP hD hS => ?_)
  have hP : va_P (dC, dI) vwCl [] H := hP
  have hD : va_D (fun q : Nat => s.heap.size ≤ q) [] := hD
  refine W.widen (k := 90) (n := 14039) (by decide) (by decide) ?_
  have heq : r1 = r4 := by
    rcases hp3 with ⟨rfl, a0⟩ | ⟨rfl, a0⟩ <;> (rcases hp6 with ⟨rfl, b0⟩ | ⟨rfl, b0⟩ <;> first | rfl | (exfalso; omega))
  refine lv_icmp_eq (tgt := 1625) hx hb dL_law_1207 (by decide) (fun _ => ?_) (fun c => absurd heq c)
  exact law_tail C0 hS (by decide) (by decide) (lv_sub hl [0, 1, 2, 3] rfl)
set_option maxHeartbeats 4000000 in
set_option maxRecDepth 100000 in
theorem law_case32 {p : Program} {e : Env} {s : State} {m : MethodId} {below : List Frame} {meth : Method} {c : Code} {b : Nat} {xs : Nat → Int32} (l : Launch) (dC : Nat → ClassId) (dI : Nat → Nat → Nat) (cB cI cJ cZ cP cQ : ClassId) (ad am : Nat → Nat) (C0 : lw_At p s m meth c b 6 xs) (H : Heap) (locs : List Loc) (hK : va_K (dC, dI) vwCl (zT cB cI cJ cZ cP cQ) s) (hP : va_P (dC, dI) vwCl (zxw cB cI cJ cZ cP cQ ad ++ zmw cB cI cJ cZ cP cQ am) H) (hD : va_D (fun q : Nat => s.heap.size ≤ q) (zxw cB cI cJ cZ cP cQ ad ++ zmw cB cI cJ cZ cP cQ am)) (hS : va_S (fun q : Nat => s.heap.size ≤ q) s.heap H locs) (hX : zX [(RX1, 44, yX8_thousandths, "MonthPush"), (RX2, 18, yX5_init, "MonthPush"), (RX8, 380, yX2_init, "MonthPush")] [] s) (ls : Array Slot) (hl : lv_has ls 4 [(3, .int 0), (2, .ref (am 0)), (1, .ref (ad 0)), (0, .ref b)]) : W p l e room_1 s m #[Value.ref b] below meth c H locs 90 14039 (lw_Z below #[Value.ref b] s) (F0 m 1212 ls []) := by
  obtain ⟨hx, hb, hr, hml, hown, hts, hXs, hbl, hlocks, hgv⟩ := id C0
  have hown : s.vm.findClass RL = some m.cls := hown
  have hA : ∀ q : Nat, s.heap.size ≤ q → (fun q : Nat => s.heap.size ≤ q) q := fun _ h => h
  have hbA : ¬ (fun q : Nat => s.heap.size ≤ q) b := Nat.not_le.mpr hbl
  refine lv_aload_n hx hb dL_law_1212 rfl (lv_at hl 2 rfl) ?_
  refine lv_aload_n hx hb dL_law_1213 rfl (lv_at hl 3 rfl) ?_
  refine lv_iload_n hx hb dL_law_1214 rfl (lv_at hl 0 rfl) ?_
  refine lv_iconst (v := 1) hx hb dL_law_1215 (by decide) ?_
  refine lv_iadd hx hb dL_law_1216 ?_
  refine z_topi (y := 1) (by decide +kernel) ?_
  refine va_sld hx hb hXs hbl hbA hS (z_in (a := 1) (by decide) (by decide) (by decide)) dL_law_1217 ?_
  refine z_topi (y := xs 1) rfl ?_
  refine lv_aload_n hx hb dL_law_1218 rfl (lv_at hl 3 rfl) ?_
  refine lv_iload_n hx hb dL_law_1219 rfl (lv_at hl 0 rfl) ?_
  refine lv_iconst (v := 2) hx hb dL_law_1220 (by decide) ?_
  refine lv_iadd hx hb dL_law_1221 ?_
  refine z_topi (y := 2) (by decide +kernel) ?_
  refine va_sld hx hb hXs hbl hbA hS (z_in (a := 2) (by decide) (by decide) (by decide)) dL_law_1222 ?_
  refine z_topi (y := xs 2) rfl ?_
  refine z_fini (w' := fun (_ : Unit) => [(am 0, .inr (9, mf0 am)), (am 25, .inl (cI, 5, .inl (fun _ => 0)))]) (va_runV (As := [.int (xs 1), .int (xs 2)]) (rest := []) ⟨hx, hb, hml, hown, hts⟩ (c_X8_needs_105 l dC dI cB cI cJ cZ cP cQ ad H.size (xs 1) (xs 2)) (cwV 2 hts gT_X8_needs rfl rfl rfl (by decide +kernel) ⟨Nat.le_of_ble_eq_true rfl, Nat.le_of_ble_eq_true rfl⟩) (z_pV (ci := 8) hK hP hD zX_nil [0, 23, 38] (by decide) rfl rfl 0 rfl) rfl rfl hl.1 rfl (lv_room (Nat.le_of_ble_eq_true rfl)) dL_law_1223 ⟨Nat.le_of_ble_eq_true rfl, Nat.le_of_ble_eq_true rfl⟩) hP hD hS hA [0, 23, 38] [53, 78] [0, 1] rfl rfl (by decide) (by decide) (fun _ => rfl) (by decide) (fun r1 u2 H locs hp3 hP hD hS => ?_)
  have hP : va_P (dC, dI) vwCl [(am 0, .inr (9, mf0 am)), (am 25, .inl (cI, 5, .inl (fun _ => 0)))] H := hP
  have hD : va_D (fun q : Nat => s.heap.size ≤ q) [(am 0, .inr (9, mf0 am)), (am 25, .inl (cI, 5, .inl (fun _ => 0)))] := hD
  refine W.widen (k := 90) (n := 14039) (by decide) (by decide) ?_
  refine lv_aload_n hx hb dL_law_1226 rfl (lv_at hl 1 rfl) ?_
  refine lv_aload_n hx hb dL_law_1227 rfl (lv_at hl 3 rfl) ?_
  refine lv_iload_n hx hb dL_law_1228 rfl (lv_at hl 0 rfl) ?_
  refine lv_iconst (v := 1) hx hb dL_law_1229 (by decide) ?_
  refine lv_iadd hx hb dL_law_1230 ?_
  refine z_topi (y := 1) (by decide +kernel) ?_
  refine va_sld hx hb hXs hbl hbA hS (z_in (a := 1) (by decide) (by decide) (by decide)) dL_law_1231 ?_
  refine z_topi (y := xs 1) rfl ?_
  refine lv_aload_n hx hb dL_law_1232 rfl (lv_at hl 3 rfl) ?_
  refine lv_iload_n hx hb dL_law_1233 rfl (lv_at hl 0 rfl) ?_
  refine lv_iconst (v := 2) hx hb dL_law_1234 (by decide) ?_
  refine lv_iadd hx hb dL_law_1235 ?_
  refine z_topi (y := 2) (by decide +kernel) ?_
  refine va_sld hx hb hXs hbl hbA hS (z_in (a := 2) (by decide) (by decide) (by decide)) dL_law_1236 ?_
  refine z_topi (y := xs 2) rfl ?_
  refine z_fini (w' := fun (_ : Unit) => []) (va_runV (As := [.int (xs 1), .int (xs 2)]) (rest := [.int r1]) ⟨hx, hb, hml, hown, hts⟩ (c_X9_needs_211 l dC dI cB cI cJ cZ cP cQ am H.size (xs 1) (xs 2)) (cwV 2 hts gT_X9_needs rfl rfl rfl (by decide +kernel) ⟨Nat.le_of_ble_eq_true rfl, Nat.le_of_ble_eq_true rfl⟩) (z_pV (ci := 9) hK hP hD zX_nil [0, 1] (by decide) rfl rfl 0 rfl) rfl rfl hl.1 rfl (lv_room (Nat.le_of_ble_eq_true rfl)) dL_law_1237 ⟨Nat.le_of_ble_eq_true rfl, Nat.le_of_ble_eq_true rfl⟩) hP hD hS hA [0, 1] [] [] rfl rfl (by decide) (by decide) (fun _ => rfl) (by decide) (fun r4 u5 H locs hp6 hP hD hS => ?_)
  have hP : va_P (dC, dI) vwCl [] H := hP
  have hD : va_D (fun q : Nat => s.heap.size ≤ q) [] := hD
  refine W.widen (k := 90) (n := 14039) (by decide) (by decide) ?_
  have heq : r1 = r4 := by
    rcases hp3 with ⟨rfl, a0⟩ | ⟨rfl, a0, a1⟩ | ⟨rfl, a0, a1, a2⟩ | ⟨rfl, a0, a1, a2, a3⟩ | ⟨rfl, a0, a1, a2, a3⟩ <;> (rcases hp6 with ⟨rfl, b0⟩ | ⟨rfl, b0, b1⟩ | ⟨rfl, b0, b1, b2⟩ | ⟨rfl, b0, b1, b2, b3⟩ | ⟨rfl, b0, b1, b2, b3⟩ <;> first | rfl | (exfalso; omega))
  refine lv_icmp_eq (tgt := 1625) hx hb dL_law_1240 (by decide) (fun _ => ?_) (fun c => absurd heq c)
  exact law_tail C0 hS (by decide) (by decide) (lv_sub hl [0, 1, 2, 3] rfl)
