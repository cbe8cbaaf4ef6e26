set_option maxHeartbeats 8000000 in
set_option maxRecDepth 100000 in
theorem law_case22 {p : Program} {e : Env} {s : State} {m : MethodId} {below : List Frame} {meth : Method} {c : Code} {b L : Nat} {xs : Nat → Int32} (l : Launch) (dC : Nat → ClassId) (dI : Nat → Nat → Nat) (cB cI cJ cZ cP cQ : ClassId) (adK adV : Nat → Nat) (q0 : Option Nat) (a1 a2 : Nat) (x3 : Int32) (C0 : lw_At p s m meth c b L xs) (hL : L ≤ 3072) (hK : va_K (dC, dI) vwCl (zT cB cI cJ cZ cP cQ) s) (hX : zX zNW zAO s) (hE : zE adK adV q0 (fun q : Nat => s.heap.size ≤ q) s s.heap) (i cells slots : Nat) (hi : x3.toInt = i) (hiL : i + 6 ≤ L) (hc : cells + 18 ≤ 600000) (hs : slots + 1522 ≤ 7302250) (ob : Nat → Int32) (w1 w2 : va_W) (I1 : IX cB cI cJ cZ cP cQ a1 ob w1) (I2 : IM cB cI cJ cZ cP cQ a2 ob w2) (H : Heap) (locs : List Loc) (hP : va_P (dC, dI) vwCl (w1 ++ w2) H) (hD : va_D (fun q : Nat => s.heap.size ≤ q) (w1 ++ w2)) (hS : va_S (fun q : Nat => s.heap.size ≤ q) s.heap H locs) (ls : Array Slot) (hl : lv_has ls 4 [(3, .int x3), (2, .ref a2), (1, .ref a1), (0, .ref b)]) (kk : ∀ (ob : Nat → Int32) (w1 w2 : va_W) (H : Heap) (locs : List Loc) (ls : Array Slot), IX cB cI cJ cZ cP cQ a1 ob w1 → IM cB cI cJ cZ cP cQ a2 ob w2 → va_P (dC, dI) vwCl (w1 ++ w2) H → va_D (fun q : Nat => s.heap.size ≤ q) (w1 ++ w2) → va_S (fun q : Nat => s.heap.size ≤ q) s.heap H locs → lv_has ls 4 [(3, .int x3), (2, .ref a2), (1, .ref a1), (0, .ref b)] → W p l e room_1 s m #[Value.ref b] below meth c H locs (cells + 18) (slots + 1522) (lw_Z below #[Value.ref b] s) (F0 m 1615 ls [])) : W p l e room_1 s m #[Value.ref b] below meth c H locs cells slots (lw_Z below #[Value.ref b] s) (F0 m 876 ls []) := by
  obtain ⟨hx, hb, hr, hml, hown, hts, hXs, hbl, hlocks, hgv⟩ := id C0
  have hown : s.vm.findClass RL = some m.cls := hown
  have hA : ∀ q : Nat, s.heap.size ≤ q → (fun q : Nat => s.heap.size ≤ q) q := fun _ h => h
  have hbA : ¬ (fun q : Nat => s.heap.size ≤ q) b := Nat.not_le.mpr hbl
  refine lv_aload_n hx hb dL_law_876 rfl (lv_at hl 2 rfl) ?_
  refine lv_aload_n hx hb dL_law_877 rfl (lv_at hl 3 rfl) ?_
  refine lv_iload_n hx hb dL_law_878 rfl (lv_at hl 0 rfl) ?_
  refine lv_iconst (v := 1) hx hb dL_law_879 (by decide) ?_
  refine lv_iadd hx hb dL_law_880 ?_
  refine lv_topi (fun r1 h2 => ?_)
  have f3 : r1.toInt = x3.toInt + 1 := z_iadd h2 rfl (show Int32.toInt 1 = 1 from by decide) (by omega) (by omega)
  refine va_sld hx hb hXs hbl hbA hS (z_in rfl (by omega) (by omega)) dL_law_881 ?_
  refine lv_topi (fun a4 h5 => ?_)
  refine lv_aload_n hx hb dL_law_882 rfl (lv_at hl 3 rfl) ?_
  refine lv_iload_n hx hb dL_law_883 rfl (lv_at hl 0 rfl) ?_
  refine lv_iconst (v := 2) hx hb dL_law_884 (by decide) ?_
  refine lv_iadd hx hb dL_law_885 ?_
  refine lv_topi (fun r6 h7 => ?_)
  have f8 : r6.toInt = x3.toInt + 2 := z_iadd h7 rfl (show Int32.toInt 2 = 2 from by decide) (by omega) (by omega)
  refine va_sld hx hb hXs hbl hbA hS (z_in rfl (by omega) (by omega)) dL_law_886 ?_
  refine lv_topi (fun a9 h10 => ?_)
  refine lv_aload_n hx hb dL_law_887 rfl (lv_at hl 3 rfl) ?_
  refine lv_iload_n hx hb dL_law_888 rfl (lv_at hl 0 rfl) ?_
  refine lv_iconst (v := 3) hx hb dL_law_889 (by decide) ?_
  refine lv_iadd hx hb dL_law_890 ?_
  refine lv_topi (fun r11 h12 => ?_)
  have f13 : r11.toInt = x3.toInt + 3 := z_iadd h12 rfl (show Int32.toInt 3 = 3 from by decide) (by omega) (by omega)
  refine va_sld hx hb hXs hbl hbA hS (z_in rfl (by omega) (by omega)) dL_law_891 ?_
  refine lv_topi (fun a14 h15 => ?_)
  refine f_fini (va_runV (As := [.int a4, .int a9, .int a14]) (rest := []) ⟨hx, hb, hml, hown, hts⟩ (q_X8_kept l dC dI cB cI cJ cZ cP cQ adK adV q0 a1 H.size ob w1 a4 a9 a14 I1) (cwV 3 hts gT_X8_kept rfl rfl rfl (by decide +kernel) ⟨Nat.le_of_ble_eq_true rfl, Nat.le_of_ble_eq_true rfl⟩) (f_pV (ci := 8) hE hS hA hK hP hD hX rfl (IX_recv I1)) rfl rfl hl.1 rfl (lv_room (Nat.le_of_ble_eq_true rfl)) dL_law_892 ⟨by show _ + 0 ≤ 600000; omega, by show _ + 0 ≤ 7302250; omega⟩) hP hD hS hA (fun r16 w1 H locs hp hP hD hS => ?_)
  obtain ⟨I1, h17⟩ := hp
  refine lv_pop hx hb dL_law_895 rfl ?_
  refine lv_aload_n hx hb dL_law_896 rfl (lv_at hl 1 rfl) ?_
  refine lv_aload_n hx hb dL_law_897 rfl (lv_at hl 3 rfl) ?_
  refine lv_iload_n hx hb dL_law_898 rfl (lv_at hl 0 rfl) ?_
  refine lv_iconst (v := 1) hx hb dL_law_899 (by decide) ?_
  refine lv_iadd hx hb dL_law_900 ?_
  refine lv_topi (fun r18 h19 => ?_)
  have f20 : r18.toInt = x3.toInt + 1 := z_iadd h19 rfl (show Int32.toInt 1 = 1 from by decide) (by omega) (by omega)
  refine va_sld hx hb hXs hbl hbA hS (z_in rfl (by omega) (by omega)) dL_law_901 ?_
  refine lv_topi (fun a21 h22 => ?_)
  refine lv_aload_n hx hb dL_law_902 rfl (lv_at hl 3 rfl) ?_
  refine lv_iload_n hx hb dL_law_903 rfl (lv_at hl 0 rfl) ?_
  refine lv_iconst (v := 2) hx hb dL_law_904 (by decide) ?_
  refine lv_iadd hx hb dL_law_905 ?_
  refine lv_topi (fun r23 h24 => ?_)
  have f25 : r23.toInt = x3.toInt + 2 := z_iadd h24 rfl (show Int32.toInt 2 = 2 from by decide) (by omega) (by omega)
  refine va_sld hx hb hXs hbl hbA hS (z_in rfl (by omega) (by omega)) dL_law_906 ?_
  refine lv_topi (fun a26 h27 => ?_)
  refine lv_aload_n hx hb dL_law_907 rfl (lv_at hl 3 rfl) ?_
  refine lv_iload_n hx hb dL_law_908 rfl (lv_at hl 0 rfl) ?_
  refine lv_iconst (v := 3) hx hb dL_law_909 (by decide) ?_
  refine lv_iadd hx hb dL_law_910 ?_
  refine lv_topi (fun r28 h29 => ?_)
  have f30 : r28.toInt = x3.toInt + 3 := z_iadd h29 rfl (show Int32.toInt 3 = 3 from by decide) (by omega) (by omega)
  refine va_sld hx hb hXs hbl hbA hS (z_in rfl (by omega) (by omega)) dL_law_911 ?_
  refine lv_topi (fun a31 h32 => ?_)
  have hP : va_P (dC, dI) vwCl (w2 ++ w1) H := f_Pm List.perm_append_comm hP
  have hD : va_D (fun q : Nat => s.heap.size ≤ q) (w2 ++ w1) := f_Dm List.perm_append_comm hD
  refine f_fini (va_runV (As := [.int a21, .int a26, .int a31]) (rest := []) ⟨hx, hb, hml, hown, hts⟩ (q_X9_kept l dC dI cB cI cJ cZ cP cQ adK adV q0 a2 H.size ob w2 a21 a26 a31 I2) (cwV 3 hts gT_X9_kept rfl rfl rfl (by decide +kernel) ⟨Nat.le_of_ble_eq_true rfl, Nat.le_of_ble_eq_true rfl⟩) (f_pV (ci := 9) hE hS hA hK hP hD hX rfl (IM_recv I2)) rfl rfl hl.1 rfl (lv_room (Nat.le_of_ble_eq_true rfl)) dL_law_912 ⟨by show _ + 0 ≤ 600000; omega, by show _ + 0 ≤ 7302250; omega⟩) hP hD hS hA (fun r33 w2 H locs hp hP hD hS => ?_)
  obtain ⟨I2, h34⟩ := hp
  have hP : va_P (dC, dI) vwCl (w1 ++ w2) H := f_Pm List.perm_append_comm hP
  have hD : va_D (fun q : Nat => s.heap.size ≤ q) (w1 ++ w2) := f_Dm List.perm_append_comm hD
  refine lv_pop hx hb dL_law_915 rfl ?_
  refine lv_goto (tgt := 1615) hx hb dL_law_916 (by decide) ?_
  refine W.widen (k := cells + 18) (n := slots + 1522) (by omega) (by omega) ?_
  exact kk ob w1 w2 H locs ls I1 I2 hP hD hS (lv_sub hl [0, 1, 2, 3] rfl)
set_option maxHeartbeats 8000000 in
set_option maxRecDepth 100000 in
theorem law_case23 {p : Program} {e : Env} {s : State} {m : MethodId} {below : List Frame} {meth : Method} {c : Code} {b L : Nat} {xs : Nat → Int32} (l : Launch) (dC : Nat → ClassId) (dI : Nat → Nat → Nat) (cB cI cJ cZ cP cQ : ClassId) (adK adV : Nat → Nat) (q0 : Option Nat) (a1 a2 : Nat) (x3 : Int32) (C0 : lw_At p s m meth c b L xs) (hL : L ≤ 3072) (hK : va_K (dC, dI) vwCl (zT cB cI cJ cZ cP cQ) s) (hX : zX zNW zAO s) (hE : zE adK adV q0 (fun q : Nat => s.heap.size ≤ q) s s.heap) (i cells slots : Nat) (hi : x3.toInt = i) (hiL : i + 6 ≤ L) (hc : cells + 18 ≤ 600000) (hs : slots + 1522 ≤ 7302250) (ob : Nat → Int32) (w1 w2 : va_W) (I1 : IX cB cI cJ cZ cP cQ a1 ob w1) (I2 : IM cB cI cJ cZ cP cQ a2 ob w2) (H : Heap) (locs : List Loc) (hP : va_P (dC, dI) vwCl (w1 ++ w2) H) (hD : va_D (fun q : Nat => s.heap.size ≤ q) (w1 ++ w2)) (hS : va_S (fun q : Nat => s.heap.size ≤ q) s.heap H locs) (ls : Array Slot) (hl : lv_has ls 4 [(3, .int x3), (2, .ref a2), (1, .ref a1), (0, .ref b)]) (kk : ∀ (ob : Nat → Int32) (w1 w2 : va_W) (H : Heap) (locs : List Loc) (ls : Array Slot), IX cB cI cJ cZ cP cQ a1 ob w1 → IM cB cI cJ cZ cP cQ a2 ob w2 → va_P (dC, dI) vwCl (w1 ++ w2) H → va_D (fun q : Nat => s.heap.size ≤ q) (w1 ++ w2) → va_S (fun q : Nat => s.heap.size ≤ q) s.heap H locs → lv_has ls 4 [(3, .int x3), (2, .ref a2), (1, .ref a1), (0, .ref b)] → W p l e room_1 s m #[Value.ref b] below meth c H locs (cells + 18) (slots + 1522) (lw_Z below #[Value.ref b] s) (F0 m 1615 ls [])) : W p l e room_1 s m #[Value.ref b] below meth c H locs cells slots (lw_Z below #[Value.ref b] s) (F0 m 919 ls []) := by
  obtain ⟨hx, hb, hr, hml, hown, hts, hXs, hbl, hlocks, hgv⟩ := id C0
  have hown : s.vm.findClass RL = some m.cls := hown
  have hA : ∀ q : Nat, s.heap.size ≤ q → (fun q : Nat => s.heap.size ≤ q) q := fun _ h => h
  have hbA : ¬ (fun q : Nat => s.heap.size ≤ q) b := Nat.not_le.mpr hbl
  refine lv_aload_n hx hb dL_law_919 rfl (lv_at hl 2 rfl) ?_
  refine lv_aload_n hx hb dL_law_920 rfl (lv_at hl 3 rfl) ?_
  refine lv_iload_n hx hb dL_law_921 rfl (lv_at hl 0 rfl) ?_
  refine lv_iconst (v := 1) hx hb dL_law_922 (by decide) ?_
  refine lv_iadd hx hb dL_law_923 ?_
  refine lv_topi (fun r1 h2 => ?_)
  have f3 : r1.toInt = x3.toInt + 1 := z_iadd h2 rfl (show Int32.toInt 1 = 1 from by decide) (by omega) (by omega)
  refine va_sld hx hb hXs hbl hbA hS (z_in rfl (by omega) (by omega)) dL_law_924 ?_
  refine lv_topi (fun a4 h5 => ?_)
  refine lv_aload_n hx hb dL_law_925 rfl (lv_at hl 3 rfl) ?_
  refine lv_iload_n hx hb dL_law_926 rfl (lv_at hl 0 rfl) ?_
  refine lv_iconst (v := 2) hx hb dL_law_927 (by decide) ?_
  refine lv_iadd hx hb dL_law_928 ?_
  refine lv_topi (fun r6 h7 => ?_)
  have f8 : r6.toInt = x3.toInt + 2 := z_iadd h7 rfl (show Int32.toInt 2 = 2 from by decide) (by omega) (by omega)
  refine va_sld hx hb hXs hbl hbA hS (z_in rfl (by omega) (by omega)) dL_law_929 ?_
  refine lv_topi (fun a9 h10 => ?_)
  refine lv_aload_n hx hb dL_law_930 rfl (lv_at hl 3 rfl) ?_
  refine lv_iload_n hx hb dL_law_931 rfl (lv_at hl 0 rfl) ?_
  refine lv_iconst (v := 3) hx hb dL_law_932 (by decide) ?_
  refine lv_iadd hx hb dL_law_933 ?_
  refine lv_topi (fun r11 h12 => ?_)
  have f13 : r11.toInt = x3.toInt + 3 := z_iadd h12 rfl (show Int32.toInt 3 = 3 from by decide) (by omega) (by omega)
  refine va_sld hx hb hXs hbl hbA hS (z_in rfl (by omega) (by omega)) dL_law_934 ?_
  refine lv_topi (fun a14 h15 => ?_)
  refine lv_aload_n hx hb dL_law_935 rfl (lv_at hl 3 rfl) ?_
  refine lv_iload_n hx hb dL_law_936 rfl (lv_at hl 0 rfl) ?_
  refine lv_iconst (v := 4) hx hb dL_law_937 (by decide) ?_
  refine lv_iadd hx hb dL_law_938 ?_
  refine lv_topi (fun r16 h17 => ?_)
  have f18 : r16.toInt = x3.toInt + 4 := z_iadd h17 rfl (show Int32.toInt 4 = 4 from by decide) (by omega) (by omega)
  refine va_sld hx hb hXs hbl hbA hS (z_in rfl (by omega) (by omega)) dL_law_939 ?_
  refine lv_topi (fun a19 h20 => ?_)
  refine f_fini (va_runV (As := [.int a4, .int a9, .int a14, .int a19]) (rest := []) ⟨hx, hb, hml, hown, hts⟩ (q_X8_hats l dC dI cB cI cJ cZ cP cQ adK adV q0 a1 H.size ob w1 a4 a9 a14 a19 I1) (cwV 4 hts gT_X8_hats rfl rfl rfl (by decide +kernel) ⟨Nat.le_of_ble_eq_true rfl, Nat.le_of_ble_eq_true rfl⟩) (f_pV (ci := 8) hE hS hA hK hP hD hX rfl (IX_recv I1)) rfl rfl hl.1 rfl (lv_room (Nat.le_of_ble_eq_true rfl)) dL_law_940 ⟨by show _ + 0 ≤ 600000; omega, by show _ + 0 ≤ 7302250; omega⟩) hP hD hS hA (fun r21 w1 H locs hp hP hD hS => ?_)
  obtain ⟨I1, h22⟩ := hp
  refine lv_pop hx hb dL_law_943 rfl ?_
  refine lv_aload_n hx hb dL_law_944 rfl (lv_at hl 1 rfl) ?_
  refine lv_aload_n hx hb dL_law_945 rfl (lv_at hl 3 rfl) ?_
  refine lv_iload_n hx hb dL_law_946 rfl (lv_at hl 0 rfl) ?_
  refine lv_iconst (v := 1) hx hb dL_law_947 (by decide) ?_
  refine lv_iadd hx hb dL_law_948 ?_
  refine lv_topi (fun r23 h24 => ?_)
  have f25 : r23.toInt = x3.toInt + 1 := z_iadd h24 rfl (show Int32.toInt 1 = 1 from by decide) (by omega) (by omega)
  refine va_sld hx hb hXs hbl hbA hS (z_in rfl (by omega) (by omega)) dL_law_949 ?_
  refine lv_topi (fun a26 h27 => ?_)
  refine lv_aload_n hx hb dL_law_950 rfl (lv_at hl 3 rfl) ?_
  refine lv_iload_n hx hb dL_law_951 rfl (lv_at hl 0 rfl) ?_
  refine lv_iconst (v := 2) hx hb dL_law_952 (by decide) ?_
  refine lv_iadd hx hb dL_law_953 ?_
  refine lv_topi (fun r28 h29 => ?_)
  have f30 : r28.toInt = x3.toInt + 2 := z_iadd h29 rfl (show Int32.toInt 2 = 2 from by decide) (by omega) (by omega)
  refine va_sld hx hb hXs hbl hbA hS (z_in rfl (by omega) (by omega)) dL_law_954 ?_
  refine lv_topi (fun a31 h32 => ?_)
  refine lv_aload_n hx hb dL_law_955 rfl (lv_at hl 3 rfl) ?_
  refine lv_iload_n hx hb dL_law_956 rfl (lv_at hl 0 rfl) ?_
  refine lv_iconst (v := 3) hx hb dL_law_957 (by decide) ?_
  refine lv_iadd hx hb dL_law_958 ?_
  refine lv_topi (fun r33 h34 => ?_)
  have f35 : r33.toInt = x3.toInt + 3 := z_iadd h34 rfl (show Int32.toInt 3 = 3 from by decide) (by omega) (by omega)
  refine va_sld hx hb hXs hbl hbA hS (z_in rfl (by omega) (by omega)) dL_law_959 ?_
  refine lv_topi (fun a36 h37 => ?_)
  refine lv_aload_n hx hb dL_law_960 rfl (lv_at hl 3 rfl) ?_
  refine lv_iload_n hx hb dL_law_961 rfl (lv_at hl 0 rfl) ?_
  refine lv_iconst (v := 4) hx hb dL_law_962 (by decide) ?_
  refine lv_iadd hx hb dL_law_963 ?_
  refine lv_topi (fun r38 h39 => ?_)
  have f40 : r38.toInt = x3.toInt + 4 := z_iadd h39 rfl (show Int32.toInt 4 = 4 from by decide) (by omega) (by omega)
  refine va_sld hx hb hXs hbl hbA hS (z_in rfl (by omega) (by omega)) dL_law_964 ?_
  refine lv_topi (fun a41 h42 => ?_)
  have hP : va_P (dC, dI) vwCl (w2 ++ w1) H := f_Pm List.perm_append_comm hP
  have hD : va_D (fun q : Nat => s.heap.size ≤ q) (w2 ++ w1) := f_Dm List.perm_append_comm hD
  refine f_fini (va_runV (As := [.int a26, .int a31, .int a36, .int a41]) (rest := []) ⟨hx, hb, hml, hown, hts⟩ (q_X9_hats l dC dI cB cI cJ cZ cP cQ adK adV q0 a2 H.size ob w2 a26 a31 a36 a41 I2) (cwV 4 hts gT_X9_hats rfl rfl rfl (by decide +kernel) ⟨Nat.le_of_ble_eq_true rfl, Nat.le_of_ble_eq_true rfl⟩) (f_pV (ci := 9) hE hS hA hK hP hD hX rfl (IM_recv I2)) rfl rfl hl.1 rfl (lv_room (Nat.le_of_ble_eq_true rfl)) dL_law_965 ⟨by show _ + 0 ≤ 600000; omega, by show _ + 0 ≤ 7302250; omega⟩) hP hD hS hA (fun r43 w2 H locs hp hP hD hS => ?_)
  obtain ⟨I2, h44⟩ := hp
  have hP : va_P (dC, dI) vwCl (w1 ++ w2) H := f_Pm List.perm_append_comm hP
  have hD : va_D (fun q : Nat => s.heap.size ≤ q) (w1 ++ w2) := f_Dm List.perm_append_comm hD
  refine lv_pop hx hb dL_law_968 rfl ?_
  refine lv_goto (tgt := 1615) hx hb dL_law_969 (by decide) ?_
  refine W.widen (k := cells + 18) (n := slots + 1522) (by omega) (by omega) ?_
  exact kk ob w1 w2 H locs ls I1 I2 hP hD hS (lv_sub hl [0, 1, 2, 3] rfl)
set_option maxHeartbeats 8000000 in
set_option maxRecDepth 100000 in
theorem law_case24 {p : Program} {e : Env} {s : State} {m : MethodId} {below : List Frame} {meth : Method} {c : Code} {b L : Nat} {xs : Nat → Int32} (l : Launch) (dC : Nat → ClassId) (dI : Nat → Nat → Nat) (cB cI cJ cZ cP cQ : ClassId) (adK adV : Nat → Nat) (q0 : Option Nat) (a1 a2 : Nat) (x3 : Int32) (C0 : lw_At p s m meth c b L xs) (hL : L ≤ 3072) (hK : va_K (dC, dI) vwCl (zT cB cI cJ cZ cP cQ) s) (hX : zX zNW zAO s) (hE : zE adK adV q0 (fun q : Nat => s.heap.size ≤ q) s s.heap) (i cells slots : Nat) (hi : x3.toInt = i) (hiL : i + 6 ≤ L) (hc : cells + 18 ≤ 600000) (hs : slots + 1522 ≤ 7302250) (ob : Nat → Int32) (w1 w2 : va_W) (I1 : IX cB cI cJ cZ cP cQ a1 ob w1) (I2 : IM cB cI cJ cZ cP cQ a2 ob w2) (H : Heap) (locs : List Loc) (hP : va_P (dC, dI) vwCl (w1 ++ w2) H) (hD : va_D (fun q : Nat => s.heap.size ≤ q) (w1 ++ w2)) (hS : va_S (fun q : Nat => s.heap.size ≤ q) s.heap H locs) (ls : Array Slot) (hl : lv_has ls 4 [(3, .int x3), (2, .ref a2), (1, .ref a1), (0, .ref b)]) (kk : ∀ (ob : Nat → Int32) (w1 w2 : va_W) (H : Heap) (locs : List Loc) (ls : Array Slot), IX cB cI cJ cZ cP cQ a1 ob w1 → IM cB cI cJ cZ cP cQ a2 ob w2 → va_P (dC, dI) vwCl (w1 ++ w2) H → va_D (fun q : Nat => s.heap.size ≤ q) (w1 ++ w2) → va_S (fun q : Nat => s.heap.size ≤ q) s.heap H locs → lv_has ls 4 [(3, .int x3), (2, .ref a2), (1, .ref a1), (0, .ref b)] → W p l e room_1 s m #[Value.ref b] below meth c H locs (cells + 18) (slots + 1522) (lw_Z below #[Value.ref b] s) (F0 m 1615 ls [])) : W p l e room_1 s m #[Value.ref b] below meth c H locs cells slots (lw_Z below #[Value.ref b] s) (F0 m 972 ls []) := by
  obtain ⟨hx, hb, hr, hml, hown, hts, hXs, hbl, hlocks, hgv⟩ := id C0
  have hown : s.vm.findClass RL = some m.cls := hown
  have hA : ∀ q : Nat, s.heap.size ≤ q → (fun q : Nat => s.heap.size ≤ q) q := fun _ h => h
  have hbA : ¬ (fun q : Nat => s.heap.size ≤ q) b := Nat.not_le.mpr hbl
  refine lv_aload_n hx hb dL_law_972 rfl (lv_at hl 2 rfl) ?_
  refine lv_aload_n hx hb dL_law_973 rfl (lv_at hl 3 rfl) ?_
  refine lv_iload_n hx hb dL_law_974 rfl (lv_at hl 0 rfl) ?_
  refine lv_iconst (v := 1) hx hb dL_law_975 (by decide) ?_
  refine lv_iadd hx hb dL_law_976 ?_
  refine lv_topi (fun r1 h2 => ?_)
  have f3 : r1.toInt = x3.toInt + 1 := z_iadd h2 rfl (show Int32.toInt 1 = 1 from by decide) (by omega) (by omega)
  refine va_sld hx hb hXs hbl hbA hS (z_in rfl (by omega) (by omega)) dL_law_977 ?_
  refine lv_topi (fun a4 h5 => ?_)
  refine f_finl (va_runV (As := [.int a4]) (rest := []) ⟨hx, hb, hml, hown, hts⟩ (q_X8_leak l dC dI cB cI cJ cZ cP cQ adK adV q0 a1 H.size ob w1 a4 I1) (cwV 1 hts gT_X8_leak rfl rfl rfl (by decide +kernel) ⟨Nat.le_of_ble_eq_true rfl, Nat.le_of_ble_eq_true rfl⟩) (f_pV (ci := 8) hE hS hA hK hP hD hX rfl (IX_recv I1)) rfl rfl hl.1 rfl (lv_room (Nat.le_of_ble_eq_true rfl)) dL_law_978 ⟨by show _ + 0 ≤ 600000; omega, by show _ + 0 ≤ 7302250; omega⟩) hP hD hS hA (fun r6 w1 H locs hp hP hD hS => ?_)
  obtain ⟨I1, h7⟩ := hp
  refine lv_pop2_2 hx hb dL_law_981 rfl ?_
  refine lv_aload_n hx hb dL_law_982 rfl (lv_at hl 1 rfl) ?_
  refine lv_aload_n hx hb dL_law_983 rfl (lv_at hl 3 rfl) ?_
  refine lv_iload_n hx hb dL_law_984 rfl (lv_at hl 0 rfl) ?_
  refine lv_iconst (v := 1) hx hb dL_law_985 (by decide) ?_
  refine lv_iadd hx hb dL_law_986 ?_
  refine lv_topi (fun r8 h9 => ?_)
  have f10 : r8.toInt = x3.toInt + 1 := z_iadd h9 rfl (show Int32.toInt 1 = 1 from by decide) (by omega) (by omega)
  refine va_sld hx hb hXs hbl hbA hS (z_in rfl (by omega) (by omega)) dL_law_987 ?_
  refine lv_topi (fun a11 h12 => ?_)
  have hP : va_P (dC, dI) vwCl (w2 ++ w1) H := f_Pm List.perm_append_comm hP
  have hD : va_D (fun q : Nat => s.heap.size ≤ q) (w2 ++ w1) := f_Dm List.perm_append_comm hD
  refine f_finl (va_runV (As := [.int a11]) (rest := []) ⟨hx, hb, hml, hown, hts⟩ (q_X9_leak l dC dI cB cI cJ cZ cP cQ adK adV q0 a2 H.size ob w2 a11 I2) (cwV 1 hts gT_X9_leak rfl rfl rfl (by decide +kernel) ⟨Nat.le_of_ble_eq_true rfl, Nat.le_of_ble_eq_true rfl⟩) (f_pV (ci := 9) hE hS hA hK hP hD hX rfl (IM_recv I2)) rfl rfl hl.1 rfl (lv_room (Nat.le_of_ble_eq_true rfl)) dL_law_988 ⟨by show _ + 0 ≤ 600000; omega, by show _ + 0 ≤ 7302250; omega⟩) hP hD hS hA (fun r13 w2 H locs hp hP hD hS => ?_)
  obtain ⟨I2, h14⟩ := hp
  have hP : va_P (dC, dI) vwCl (w1 ++ w2) H := f_Pm List.perm_append_comm hP
  have hD : va_D (fun q : Nat => s.heap.size ≤ q) (w1 ++ w2) := f_Dm List.perm_append_comm hD
  refine lv_pop2_2 hx hb dL_law_991 rfl ?_
  refine lv_goto (tgt := 1615) hx hb dL_law_992 (by decide) ?_
  refine W.widen (k := cells + 18) (n := slots + 1522) (by omega) (by omega) ?_
  exact kk ob w1 w2 H locs ls I1 I2 hP hD hS (lv_sub hl [0, 1, 2, 3] rfl)
set_option maxHeartbeats 8000000 in
set_option maxRecDepth 100000 in
theorem law_case25 {p : Program} {e : Env} {s : State} {m : MethodId} {below : List Frame} {meth : Method} {c : Code} {b L : Nat} {xs : Nat → Int32} (l : Launch) (dC : Nat → ClassId) (dI : Nat → Nat → Nat) (cB cI cJ cZ cP cQ : ClassId) (adK adV : Nat → Nat) (q0 : Option Nat) (a1 a2 : Nat) (x3 : Int32) (C0 : lw_At p s m meth c b L xs) (hL : L ≤ 3072) (hK : va_K (dC, dI) vwCl (zT cB cI cJ cZ cP cQ) s) (hX : zX zNW zAO s) (hE : zE adK adV q0 (fun q : Nat => s.heap.size ≤ q) s s.heap) (i cells slots : Nat) (hi : x3.toInt = i) (hiL : i + 6 ≤ L) (hc : cells + 18 ≤ 600000) (hs : slots + 1522 ≤ 7302250) (ob : Nat → Int32) (w1 w2 : va_W) (I1 : IX cB cI cJ cZ cP cQ a1 ob w1) (I2 : IM cB cI cJ cZ cP cQ a2 ob w2) (H : Heap) (locs : List Loc) (hP : va_P (dC, dI) vwCl (w1 ++ w2) H) (hD : va_D (fun q : Nat => s.heap.size ≤ q) (w1 ++ w2)) (hS : va_S (fun q : Nat => s.heap.size ≤ q) s.heap H locs) (ls : Array Slot) (hl : lv_has ls 4 [(3, .int x3), (2, .ref a2), (1, .ref a1), (0, .ref b)]) (kk : ∀ (ob : Nat → Int32) (w1 w2 : va_W) (H : Heap) (locs : List Loc) (ls : Array Slot), IX cB cI cJ cZ cP cQ a1 ob w1 → IM cB cI cJ cZ cP cQ a2 ob w2 → va_P (dC, dI) vwCl (w1 ++ w2) H → va_D (fun q : Nat => s.heap.size ≤ q) (w1 ++ w2) → va_S (fun q : Nat => s.heap.size ≤ q) s.heap H locs → lv_has ls 4 [(3, .int x3), (2, .ref a2), (1, .ref a1), (0, .ref b)] → W p l e room_1 s m #[Value.ref b] below meth c H locs (cells + 18) (slots + 1522) (lw_Z below #[Value.ref b] s) (F0 m 1615 ls [])) : W p l e room_1 s m #[Value.ref b] below meth c H locs cells slots (lw_Z below #[Value.ref b] s) (F0 m 995 ls []) := by
  obtain ⟨hx, hb, hr, hml, hown, hts, hXs, hbl, hlocks, hgv⟩ := id C0
  have hown : s.vm.findClass RL = some m.cls := hown
  have hA : ∀ q : Nat, s.heap.size ≤ q → (fun q : Nat => s.heap.size ≤ q) q := fun _ h => h
  have hbA : ¬ (fun q : Nat => s.heap.size ≤ q) b := Nat.not_le.mpr hbl
  refine lv_aload_n hx hb dL_law_995 rfl (lv_at hl 2 rfl) ?_
  refine lv_aload_n hx hb dL_law_996 rfl (lv_at hl 3 rfl) ?_
  refine lv_iload_n hx hb dL_law_997 rfl (lv_at hl 0 rfl) ?_
  refine lv_iconst (v := 1) hx hb dL_law_998 (by decide) ?_
  refine lv_iadd hx hb dL_law_999 ?_
  refine lv_topi (fun r1 h2 => ?_)
  have f3 : r1.toInt = x3.toInt + 1 := z_iadd h2 rfl (show Int32.toInt 1 = 1 from by decide) (by omega) (by omega)
  refine va_sld hx hb hXs hbl hbA hS (z_in rfl (by omega) (by omega)) dL_law_1000 ?_
  refine lv_topi (fun a4 h5 => ?_)
  refine lv_aload_n hx hb dL_law_1001 rfl (lv_at hl 3 rfl) ?_
  refine lv_iload_n hx hb dL_law_1002 rfl (lv_at hl 0 rfl) ?_
  refine lv_iconst (v := 2) hx hb dL_law_1003 (by decide) ?_
  refine lv_iadd hx hb dL_law_1004 ?_
  refine lv_topi (fun r6 h7 => ?_)
  have f8 : r6.toInt = x3.toInt + 2 := z_iadd h7 rfl (show Int32.toInt 2 = 2 from by decide) (by omega) (by omega)
  refine va_sld hx hb hXs hbl hbA hS (z_in rfl (by omega) (by omega)) dL_law_1005 ?_
  refine lv_topi (fun a9 h10 => ?_)
  refine f_finl (va_runV (As := [.int a4, .int a9]) (rest := []) ⟨hx, hb, hml, hown, hts⟩ (q_X8_leaked l dC dI cB cI cJ cZ cP cQ adK adV q0 a1 H.size ob w1 a4 a9 I1) (cwV 2 hts gT_X8_leaked rfl rfl rfl (by decide +kernel) ⟨Nat.le_of_ble_eq_true rfl, Nat.le_of_ble_eq_true rfl⟩) (f_pV (ci := 8) hE hS hA hK hP hD hX rfl (IX_recv I1)) rfl rfl hl.1 rfl (lv_room (Nat.le_of_ble_eq_true rfl)) dL_law_1006 ⟨by show _ + 0 ≤ 600000; omega, by show _ + 0 ≤ 7302250; omega⟩) hP hD hS hA (fun r11 w1 H locs hp hP hD hS => ?_)
  obtain ⟨I1, h12⟩ := hp
  refine lv_pop2_2 hx hb dL_law_1009 rfl ?_
  refine lv_aload_n hx hb dL_law_1010 rfl (lv_at hl 1 rfl) ?_
  refine lv_aload_n hx hb dL_law_1011 rfl (lv_at hl 3 rfl) ?_
  refine lv_iload_n hx hb dL_law_1012 rfl (lv_at hl 0 rfl) ?_
  refine lv_iconst (v := 1) hx hb dL_law_1013 (by decide) ?_
  refine lv_iadd hx hb dL_law_1014 ?_
  refine lv_topi (fun r13 h14 => ?_)
  have f15 : r13.toInt = x3.toInt + 1 := z_iadd h14 rfl (show Int32.toInt 1 = 1 from by decide) (by omega) (by omega)
  refine va_sld hx hb hXs hbl hbA hS (z_in rfl (by omega) (by omega)) dL_law_1015 ?_
  refine lv_topi (fun a16 h17 => ?_)
  refine lv_aload_n hx hb dL_law_1016 rfl (lv_at hl 3 rfl) ?_
  refine lv_iload_n hx hb dL_law_1017 rfl (lv_at hl 0 rfl) ?_
  refine lv_iconst (v := 2) hx hb dL_law_1018 (by decide) ?_
  refine lv_iadd hx hb dL_law_1019 ?_
  refine lv_topi (fun r18 h19 => ?_)
  have f20 : r18.toInt = x3.toInt + 2 := z_iadd h19 rfl (show Int32.toInt 2 = 2 from by decide) (by omega) (by omega)
  refine va_sld hx hb hXs hbl hbA hS (z_in rfl (by omega) (by omega)) dL_law_1020 ?_
  refine lv_topi (fun a21 h22 => ?_)
  have hP : va_P (dC, dI) vwCl (w2 ++ w1) H := f_Pm List.perm_append_comm hP
  have hD : va_D (fun q : Nat => s.heap.size ≤ q) (w2 ++ w1) := f_Dm List.perm_append_comm hD
  refine f_finl (va_runV (As := [.int a16, .int a21]) (rest := []) ⟨hx, hb, hml, hown, hts⟩ (q_X9_leaked l dC dI cB cI cJ cZ cP cQ adK adV q0 a2 H.size ob w2 a16 a21 I2) (cwV 2 hts gT_X9_leaked rfl rfl rfl (by decide +kernel) ⟨Nat.le_of_ble_eq_true rfl, Nat.le_of_ble_eq_true rfl⟩) (f_pV (ci := 9) hE hS hA hK hP hD hX rfl (IM_recv I2)) rfl rfl hl.1 rfl (lv_room (Nat.le_of_ble_eq_true rfl)) dL_law_1021 ⟨by show _ + 0 ≤ 600000; omega, by show _ + 0 ≤ 7302250; omega⟩) hP hD hS hA (fun r23 w2 H locs hp hP hD hS => ?_)
  obtain ⟨I2, h24⟩ := hp
  have hP : va_P (dC, dI) vwCl (w1 ++ w2) H := f_Pm List.perm_append_comm hP
  have hD : va_D (fun q : Nat => s.heap.size ≤ q) (w1 ++ w2) := f_Dm List.perm_append_comm hD
  refine lv_pop2_2 hx hb dL_law_1024 rfl ?_
  refine lv_goto (tgt := 1615) hx hb dL_law_1025 (by decide) ?_
  refine W.widen (k := cells + 18) (n := slots + 1522) (by omega) (by omega) ?_
  exact kk ob w1 w2 H locs ls I1 I2 hP hD hS (lv_sub hl [0, 1, 2, 3] rfl)
set_option maxHeartbeats 8000000 in
set_option maxRecDepth 100000 in
theorem law_case26 {p : Program} {e : Env} {s : State} {m : MethodId} {below : List Frame} {meth : Method} {c : Code} {b L : Nat} {xs : Nat → Int32} (l : Launch) (dC : Nat → ClassId) (dI : Nat → Nat → Nat) (cB cI cJ cZ cP cQ : ClassId) (adK adV : Nat → Nat) (q0 : Option Nat) (a1 a2 : Nat) (x3 : Int32) (C0 : lw_At p s m meth c b L xs) (hL : L ≤ 3072) (hK : va_K (dC, dI) vwCl (zT cB cI cJ cZ cP cQ) s) (hX : zX zNW zAO s) (hE : zE adK adV q0 (fun q : Nat => s.heap.size ≤ q) s s.heap) (i cells slots : Nat) (hi : x3.toInt = i) (hiL : i + 6 ≤ L) (hc : cells + 18 ≤ 600000) (hs : slots + 1522 ≤ 7302250) (ob : Nat → Int32) (w1 w2 : va_W) (I1 : IX cB cI cJ cZ cP cQ a1 ob w1) (I2 : IM cB cI cJ cZ cP cQ a2 ob w2) (H : Heap) (locs : List Loc) (hP : va_P (dC, dI) vwCl (w1 ++ w2) H) (hD : va_D (fun q : Nat => s.heap.size ≤ q) (w1 ++ w2)) (hS : va_S (fun q : Nat => s.heap.size ≤ q) s.heap H locs) (ls : Array Slot) (hl : lv_has ls 4 [(3, .int x3), (2, .ref a2), (1, .ref a1), (0, .ref b)]) (kk : ∀ (ob : Nat → Int32) (w1 w2 : va_W) (H : Heap) (locs : List Loc) (ls : Array Slot), IX cB cI cJ cZ cP cQ a1 ob w1 → IM cB cI cJ cZ cP cQ a2 ob w2 → va_P (dC, dI) vwCl (w1 ++ w2) H → va_D (fun q : Nat => s.heap.size ≤ q) (w1 ++ w2) → va_S (fun q : Nat => s.heap.size ≤ q) s.heap H locs → lv_has ls 4 [(3, .int x3), (2, .ref a2), (1, .ref a1), (0, .ref b)] → W p l e room_1 s m #[Value.ref b] below meth c H locs (cells + 18) (slots + 1522) (lw_Z below #[Value.ref b] s) (F0 m 1615 ls [])) : W p l e room_1 s m #[Value.ref b] below meth c H locs cells slots (lw_Z below #[Value.ref b] s) (F0 m 1028 ls []) := by
  obtain ⟨hx, hb, hr, hml, hown, hts, hXs, hbl, hlocks, hgv⟩ := id C0
  have hown : s.vm.findClass RL = some m.cls := hown
  have hA : ∀ q : Nat, s.heap.size ≤ q → (fun q : Nat => s.heap.size ≤ q) q := fun _ h => h
  have hbA : ¬ (fun q : Nat => s.heap.size ≤ q) b := Nat.not_le.mpr hbl
  refine lv_aload_n hx hb dL_law_1028 rfl (lv_at hl 2 rfl) ?_
  refine lv_aload_n hx hb dL_law_1029 rfl (lv_at hl 3 rfl) ?_
  refine lv_iload_n hx hb dL_law_1030 rfl (lv_at hl 0 rfl) ?_
  refine lv_iconst (v := 1) hx hb dL_law_1031 (by decide) ?_
  refine lv_iadd hx hb dL_law_1032 ?_
  refine lv_topi (fun r1 h2 => ?_)
  have f3 : r1.toInt = x3.toInt + 1 := z_iadd h2 rfl (show Int32.toInt 1 = 1 from by decide) (by omega) (by omega)
  refine va_sld hx hb hXs hbl hbA hS (z_in rfl (by omega) (by omega)) dL_law_1033 ?_
  refine lv_topi (fun a4 h5 => ?_)
  refine f_finl (va_runV (As := [.int a4]) (rest := []) ⟨hx, hb, hml, hown, hts⟩ (q_X8_homes l dC dI cB cI cJ cZ cP cQ adK adV q0 a1 H.size ob w1 a4 I1) (cwV 1 hts gT_X8_homes rfl rfl rfl (by decide +kernel) ⟨Nat.le_of_ble_eq_true rfl, Nat.le_of_ble_eq_true rfl⟩) (f_pV (ci := 8) hE hS hA hK hP hD hX rfl (IX_recv I1)) rfl rfl hl.1 rfl (lv_room (Nat.le_of_ble_eq_true rfl)) dL_law_1034 ⟨by show _ + 0 ≤ 600000; omega, by show _ + 0 ≤ 7302250; omega⟩) hP hD hS hA (fun r6 w1 H locs hp hP hD hS => ?_)
  obtain ⟨I1, h7⟩ := hp
  refine lv_pop2_2 hx hb dL_law_1037 rfl ?_
  refine lv_aload_n hx hb dL_law_1038 rfl (lv_at hl 1 rfl) ?_
  refine lv_aload_n hx hb dL_law_1039 rfl (lv_at hl 3 rfl) ?_
  refine lv_iload_n hx hb dL_law_1040 rfl (lv_at hl 0 rfl) ?_
  refine lv_iconst (v := 1) hx hb dL_law_1041 (by decide) ?_
  refine lv_iadd hx hb dL_law_1042 ?_
  refine lv_topi (fun r8 h9 => ?_)
  have f10 : r8.toInt = x3.toInt + 1 := z_iadd h9 rfl (show Int32.toInt 1 = 1 from by decide) (by omega) (by omega)
  refine va_sld hx hb hXs hbl hbA hS (z_in rfl (by omega) (by omega)) dL_law_1043 ?_
  refine lv_topi (fun a11 h12 => ?_)
  have hP : va_P (dC, dI) vwCl (w2 ++ w1) H := f_Pm List.perm_append_comm hP
  have hD : va_D (fun q : Nat => s.heap.size ≤ q) (w2 ++ w1) := f_Dm List.perm_append_comm hD
  refine f_finl (va_runV (As := [.int a11]) (rest := []) ⟨hx, hb, hml, hown, hts⟩ (q_X9_homes l dC dI cB cI cJ cZ cP cQ adK adV q0 a2 H.size ob w2 a11 I2) (cwV 1 hts gT_X9_homes rfl rfl rfl (by decide +kernel) ⟨Nat.le_of_ble_eq_true rfl, Nat.le_of_ble_eq_true rfl⟩) (f_pV (ci := 9) hE hS hA hK hP hD hX rfl (IM_recv I2)) rfl rfl hl.1 rfl (lv_room (Nat.le_of_ble_eq_true rfl)) dL_law_1044 ⟨by show _ + 0 ≤ 600000; omega, by show _ + 0 ≤ 7302250; omega⟩) hP hD hS hA (fun r13 w2 H locs hp hP hD hS => ?_)
  obtain ⟨I2, h14⟩ := hp
  have hP : va_P (dC, dI) vwCl (w1 ++ w2) H := f_Pm List.perm_append_comm hP
  have hD : va_D (fun q : Nat => s.heap.size ≤ q) (w1 ++ w2) := f_Dm List.perm_append_comm hD
  refine lv_pop2_2 hx hb dL_law_1047 rfl ?_
  refine lv_goto (tgt := 1615) hx hb dL_law_1048 (by decide) ?_
  refine W.widen (k := cells + 18) (n := slots + 1522) (by omega) (by omega) ?_
  exact kk ob w1 w2 H locs ls I1 I2 hP hD hS (lv_sub hl [0, 1, 2, 3] rfl)
set_option maxHeartbeats 8000000 in
set_option maxRecDepth 100000 in
theorem law_case27 {p : Program} {e : Env} {s : State} {m : MethodId} {below : List Frame} {meth : Method} {c : Code} {b L : Nat} {xs : Nat → Int32} (l : Launch) (dC : Nat → ClassId) (dI : Nat → Nat → Nat) (cB cI cJ cZ cP cQ : ClassId) (adK adV : Nat → Nat) (q0 : Option Nat) (a1 a2 : Nat) (x3 : Int32) (C0 : lw_At p s m meth c b L xs) (hL : L ≤ 3072) (hK : va_K (dC, dI) vwCl (zT cB cI cJ cZ cP cQ) s) (hX : zX zNW zAO s) (hE : zE adK adV q0 (fun q : Nat => s.heap.size ≤ q) s s.heap) (i cells slots : Nat) (hi : x3.toInt = i) (hiL : i + 6 ≤ L) (hc : cells + 18 ≤ 600000) (hs : slots + 1522 ≤ 7302250) (ob : Nat → Int32) (w1 w2 : va_W) (I1 : IX cB cI cJ cZ cP cQ a1 ob w1) (I2 : IM cB cI cJ cZ cP cQ a2 ob w2) (H : Heap) (locs : List Loc) (hP : va_P (dC, dI) vwCl (w1 ++ w2) H) (hD : va_D (fun q : Nat => s.heap.size ≤ q) (w1 ++ w2)) (hS : va_S (fun q : Nat => s.heap.size ≤ q) s.heap H locs) (ls : Array Slot) (hl : lv_has ls 4 [(3, .int x3), (2, .ref a2), (1, .ref a1), (0, .ref b)]) (kk : ∀ (ob : Nat → Int32) (w1 w2 : va_W) (H : Heap) (locs : List Loc) (ls : Array Slot), IX cB cI cJ cZ cP cQ a1 ob w1 → IM cB cI cJ cZ cP cQ a2 ob w2 → va_P (dC, dI) vwCl (w1 ++ w2) H → va_D (fun q : Nat => s.heap.size ≤ q) (w1 ++ w2) → va_S (fun q : Nat => s.heap.size ≤ q) s.heap H locs → lv_has ls 4 [(3, .int x3), (2, .ref a2), (1, .ref a1), (0, .ref b)] → W p l e room_1 s m #[Value.ref b] below meth c H locs (cells + 18) (slots + 1522) (lw_Z below #[Value.ref b] s) (F0 m 1615 ls [])) : W p l e room_1 s m #[Value.ref b] below meth c H locs cells slots (lw_Z below #[Value.ref b] s) (F0 m 1051 ls []) := by
  obtain ⟨hx, hb, hr, hml, hown, hts, hXs, hbl, hlocks, hgv⟩ := id C0
  have hown : s.vm.findClass RL = some m.cls := hown
  have hA : ∀ q : Nat, s.heap.size ≤ q → (fun q : Nat => s.heap.size ≤ q) q := fun _ h => h
  have hbA : ¬ (fun q : Nat => s.heap.size ≤ q) b := Nat.not_le.mpr hbl
  refine lv_aload_n hx hb dL_law_1051 rfl (lv_at hl 2 rfl) ?_
  refine lv_aload_n hx hb dL_law_1052 rfl (lv_at hl 3 rfl) ?_
  refine lv_iload_n hx hb dL_law_1053 rfl (lv_at hl 0 rfl) ?_
  refine lv_iconst (v := 1) hx hb dL_law_1054 (by decide) ?_
  refine lv_iadd hx hb dL_law_1055 ?_
  refine lv_topi (fun r1 h2 => ?_)
  have f3 : r1.toInt = x3.toInt + 1 := z_iadd h2 rfl (show Int32.toInt 1 = 1 from by decide) (by omega) (by omega)
  refine va_sld hx hb hXs hbl hbA hS (z_in rfl (by omega) (by omega)) dL_law_1056 ?_
  refine lv_topi (fun a4 h5 => ?_)
  refine f_fini (va_runV (As := [.int a4]) (rest := []) ⟨hx, hb, hml, hown, hts⟩ (q_X8_whom l dC dI cB cI cJ cZ cP cQ adK adV q0 a1 H.size ob w1 a4 I1) (cwV 1 hts gT_X8_whom rfl rfl rfl (by decide +kernel) ⟨Nat.le_of_ble_eq_true rfl, Nat.le_of_ble_eq_true rfl⟩) (f_pV (ci := 8) hE hS hA hK hP hD hX rfl (IX_recv I1)) rfl rfl hl.1 rfl (lv_room (Nat.le_of_ble_eq_true rfl)) dL_law_1057 ⟨by show _ + 0 ≤ 600000; omega, by show _ + 0 ≤ 7302250; omega⟩) hP hD hS hA (fun r6 w1 H locs hp hP hD hS => ?_)
  obtain ⟨I1, h7⟩ := hp
  refine lv_pop hx hb dL_law_1060 rfl ?_
  refine lv_aload_n hx hb dL_law_1061 rfl (lv_at hl 1 rfl) ?_
  refine lv_aload_n hx hb dL_law_1062 rfl (lv_at hl 3 rfl) ?_
  refine lv_iload_n hx hb dL_law_1063 rfl (lv_at hl 0 rfl) ?_
  refine lv_iconst (v := 1) hx hb dL_law_1064 (by decide) ?_
  refine lv_iadd hx hb dL_law_1065 ?_
  refine lv_topi (fun r8 h9 => ?_)
  have f10 : r8.toInt = x3.toInt + 1 := z_iadd h9 rfl (show Int32.toInt 1 = 1 from by decide) (by omega) (by omega)
  refine va_sld hx hb hXs hbl hbA hS (z_in rfl (by omega) (by omega)) dL_law_1066 ?_
  refine lv_topi (fun a11 h12 => ?_)
  have hP : va_P (dC, dI) vwCl (w2 ++ w1) H := f_Pm List.perm_append_comm hP
  have hD : va_D (fun q : Nat => s.heap.size ≤ q) (w2 ++ w1) := f_Dm List.perm_append_comm hD
  refine f_fini (va_runV (As := [.int a11]) (rest := []) ⟨hx, hb, hml, hown, hts⟩ (q_X9_whom l dC dI cB cI cJ cZ cP cQ adK adV q0 a2 H.size ob w2 a11 I2) (cwV 1 hts gT_X9_whom rfl rfl rfl (by decide +kernel) ⟨Nat.le_of_ble_eq_true rfl, Nat.le_of_ble_eq_true rfl⟩) (f_pV (ci := 9) hE hS hA hK hP hD hX rfl (IM_recv I2)) rfl rfl hl.1 rfl (lv_room (Nat.le_of_ble_eq_true rfl)) dL_law_1067 ⟨by show _ + 0 ≤ 600000; omega, by show _ + 0 ≤ 7302250; omega⟩) hP hD hS hA (fun r13 w2 H locs hp hP hD hS => ?_)
  obtain ⟨I2, h14⟩ := hp
  have hP : va_P (dC, dI) vwCl (w1 ++ w2) H := f_Pm List.perm_append_comm hP
  have hD : va_D (fun q : Nat => s.heap.size ≤ q) (w1 ++ w2) := f_Dm List.perm_append_comm hD
  refine lv_pop hx hb dL_law_1070 rfl ?_
  refine lv_goto (tgt := 1615) hx hb dL_law_1071 (by decide) ?_
  refine W.widen (k := cells + 18) (n := slots + 1522) (by omega) (by omega) ?_
  exact kk ob w1 w2 H locs ls I1 I2 hP hD hS (lv_sub hl [0, 1, 2, 3] rfl)
set_option maxHeartbeats 8000000 in
set_option maxRecDepth 100000 in
theorem law_case28 {p : Program} {e : Env} {s : State} {m : MethodId} {below : List Frame} {meth : Method} {c : Code} {b L : Nat} {xs : Nat → Int32} (l : Launch) (dC : Nat → ClassId) (dI : Nat → Nat → Nat) (cB cI cJ cZ cP cQ : ClassId) (adK adV : Nat → Nat) (q0 : Option Nat) (a1 a2 : Nat) (x3 : Int32) (C0 : lw_At p s m meth c b L xs) (hL : L ≤ 3072) (hK : va_K (dC, dI) vwCl (zT cB cI cJ cZ cP cQ) s) (hX : zX zNW zAO s) (hE : zE adK adV q0 (fun q : Nat => s.heap.size ≤ q) s s.heap) (i cells slots : Nat) (hi : x3.toInt = i) (hiL : i + 6 ≤ L) (hc : cells + 18 ≤ 600000) (hs : slots + 1522 ≤ 7302250) (ob : Nat → Int32) (w1 w2 : va_W) (I1 : IX cB cI cJ cZ cP cQ a1 ob w1) (I2 : IM cB cI cJ cZ cP cQ a2 ob w2) (H : Heap) (locs : List Loc) (hP : va_P (dC, dI) vwCl (w1 ++ w2) H) (hD : va_D (fun q : Nat => s.heap.size ≤ q) (w1 ++ w2)) (hS : va_S (fun q : Nat => s.heap.size ≤ q) s.heap H locs) (ls : Array Slot) (hl : lv_has ls 4 [(3, .int x3), (2, .ref a2), (1, .ref a1), (0, .ref b)]) (kk : ∀ (ob : Nat → Int32) (w1 w2 : va_W) (H : Heap) (locs : List Loc) (ls : Array Slot), IX cB cI cJ cZ cP cQ a1 ob w1 → IM cB cI cJ cZ cP cQ a2 ob w2 → va_P (dC, dI) vwCl (w1 ++ w2) H → va_D (fun q : Nat => s.heap.size ≤ q) (w1 ++ w2) → va_S (fun q : Nat => s.heap.size ≤ q) s.heap H locs → lv_has ls 4 [(3, .int x3), (2, .ref a2), (1, .ref a1), (0, .ref b)] → W p l e room_1 s m #[Value.ref b] below meth c H locs (cells + 18) (slots + 1522) (lw_Z below #[Value.ref b] s) (F0 m 1615 ls [])) : W p l e room_1 s m #[Value.ref b] below meth c H locs cells slots (lw_Z below #[Value.ref b] s) (F0 m 1074 ls []) := by
  obtain ⟨hx, hb, hr, hml, hown, hts, hXs, hbl, hlocks, hgv⟩ := id C0
  have hown : s.vm.findClass RL = some m.cls := hown
  have hA : ∀ q : Nat, s.heap.size ≤ q → (fun q : Nat => s.heap.size ≤ q) q := fun _ h => h
  have hbA : ¬ (fun q : Nat => s.heap.size ≤ q) b := Nat.not_le.mpr hbl
  refine lv_aload_n hx hb dL_law_1074 rfl (lv_at hl 2 rfl) ?_
  refine lv_aload_n hx hb dL_law_1075 rfl (lv_at hl 3 rfl) ?_
  refine lv_iload_n hx hb dL_law_1076 rfl (lv_at hl 0 rfl) ?_
  refine lv_iconst (v := 1) hx hb dL_law_1077 (by decide) ?_
  refine lv_iadd hx hb dL_law_1078 ?_
  refine lv_topi (fun r1 h2 => ?_)
  have f3 : r1.toInt = x3.toInt + 1 := z_iadd h2 rfl (show Int32.toInt 1 = 1 from by decide) (by omega) (by omega)
  refine va_sld hx hb hXs hbl hbA hS (z_in rfl (by omega) (by omega)) dL_law_1079 ?_
  refine lv_topi (fun a4 h5 => ?_)
  refine lv_if_eq (tgt := 1087) hx hb dL_law_1080 (by decide) (fun c_6 => ?_) (fun c_6 => ?_)
  · have f7 : a4.toInt = 0 := z_eq rfl (show Int32.toInt 0 = 0 from by decide) c_6
    refine lv_iconst (v := 0) hx hb dL_law_1087 (by decide) ?_
    refine f_finl (va_runV (As := [.int 0]) (rest := []) ⟨hx, hb, hml, hown, hts⟩ (q_X8_truth l dC dI cB cI cJ cZ cP cQ adK adV q0 a1 H.size ob w1 0 (show 0 ≤ Int32.toInt 0 from by decide) (show Int32.toInt 0 ≤ 1 from by decide) I1) (cwV 1 hts gT_X8_truth rfl rfl rfl (by decide +kernel) ⟨Nat.le_of_ble_eq_true rfl, Nat.le_of_ble_eq_true rfl⟩) (f_pV (ci := 8) hE hS hA hK hP hD hX rfl (IX_recv I1)) rfl rfl hl.1 rfl (lv_room (Nat.le_of_ble_eq_true rfl)) dL_law_1088 ⟨by show _ + 0 ≤ 600000; omega, by show _ + 0 ≤ 7302250; omega⟩) hP hD hS hA (fun r8 w1 H locs hp hP hD hS => ?_)
    obtain ⟨I1, h9⟩ := hp
    refine lv_pop2_2 hx hb dL_law_1091 rfl ?_
    refine lv_aload_n hx hb dL_law_1092 rfl (lv_at hl 1 rfl) ?_
    refine lv_aload_n hx hb dL_law_1093 rfl (lv_at hl 3 rfl) ?_
    refine lv_iload_n hx hb dL_law_1094 rfl (lv_at hl 0 rfl) ?_
    refine lv_iconst (v := 1) hx hb dL_law_1095 (by decide) ?_
    refine lv_iadd hx hb dL_law_1096 ?_
    refine lv_topi (fun r10 h11 => ?_)
    have f12 : r10.toInt = x3.toInt + 1 := z_iadd h11 rfl (show Int32.toInt 1 = 1 from by decide) (by omega) (by omega)
    refine va_sld hx hb hXs hbl hbA hS (z_in rfl (by omega) (by omega)) dL_law_1097 ?_
    refine lv_topi (fun a13 h14 => ?_)
    refine lv_if_eq (tgt := 1105) hx hb dL_law_1098 (by decide) (fun c_15 => ?_) (fun c_15 => ?_)
    · have f16 : a13.toInt = 0 := z_eq rfl (show Int32.toInt 0 = 0 from by decide) c_15
      refine lv_iconst (v := 0) hx hb dL_law_1105 (by decide) ?_
      have hP : va_P (dC, dI) vwCl (w2 ++ w1) H := f_Pm List.perm_append_comm hP
      have hD : va_D (fun q : Nat => s.heap.size ≤ q) (w2 ++ w1) := f_Dm List.perm_append_comm hD
      refine f_finl (va_runV (As := [.int 0]) (rest := []) ⟨hx, hb, hml, hown, hts⟩ (q_X9_truth l dC dI cB cI cJ cZ cP cQ adK adV q0 a2 H.size ob w2 0 (show 0 ≤ Int32.toInt 0 from by decide) (show Int32.toInt 0 ≤ 1 from by decide) I2) (cwV 1 hts gT_X9_truth rfl rfl rfl (by decide +kernel) ⟨Nat.le_of_ble_eq_true rfl, Nat.le_of_ble_eq_true rfl⟩) (f_pV (ci := 9) hE hS hA hK hP hD hX rfl (IM_recv I2)) rfl rfl hl.1 rfl (lv_room (Nat.le_of_ble_eq_true rfl)) dL_law_1106 ⟨by show _ + 0 ≤ 600000; omega, by show _ + 0 ≤ 7302250; omega⟩) hP hD hS hA (fun r17 w2 H locs hp hP hD hS => ?_)
      obtain ⟨I2, h18⟩ := hp
      have hP : va_P (dC, dI) vwCl (w1 ++ w2) H := f_Pm List.perm_append_comm hP
      have hD : va_D (fun q : Nat => s.heap.size ≤ q) (w1 ++ w2) := f_Dm List.perm_append_comm hD
      refine lv_pop2_2 hx hb dL_law_1109 rfl ?_
      refine lv_goto (tgt := 1615) hx hb dL_law_1110 (by decide) ?_
      refine W.widen (k := cells + 18) (n := slots + 1522) (by omega) (by omega) ?_
      exact kk ob w1 w2 H locs ls I1 I2 hP hD hS (lv_sub hl [0, 1, 2, 3] rfl)
    · have f16 : ¬ a13.toInt = 0 := z_ne rfl (show Int32.toInt 0 = 0 from by decide) c_15
      refine lv_iconst (v := 1) hx hb dL_law_1101 (by decide) ?_
      refine lv_goto (tgt := 1106) hx hb dL_law_1102 (by decide) ?_
      have hP : va_P (dC, dI) vwCl (w2 ++ w1) H := f_Pm List.perm_append_comm hP
      have hD : va_D (fun q : Nat => s.heap.size ≤ q) (w2 ++ w1) := f_Dm List.perm_append_comm hD
      refine f_finl (va_runV (As := [.int 1]) (rest := []) ⟨hx, hb, hml, hown, hts⟩ (q_X9_truth l dC dI cB cI cJ cZ cP cQ adK adV q0 a2 H.size ob w2 1 (show 0 ≤ Int32.toInt 1 from by decide) (show Int32.toInt 1 ≤ 1 from by decide) I2) (cwV 1 hts gT_X9_truth rfl rfl rfl (by decide +kernel) ⟨Nat.le_of_ble_eq_true rfl, Nat.le_of_ble_eq_true rfl⟩) (f_pV (ci := 9) hE hS hA hK hP hD hX rfl (IM_recv I2)) rfl rfl hl.1 rfl (lv_room (Nat.le_of_ble_eq_true rfl)) dL_law_1106 ⟨by show _ + 0 ≤ 600000; omega, by show _ + 0 ≤ 7302250; omega⟩) hP hD hS hA (fun r19 w2 H locs hp hP hD hS => ?_)
      obtain ⟨I2, h20⟩ := hp
      have hP : va_P (dC, dI) vwCl (w1 ++ w2) H := f_Pm List.perm_append_comm hP
      have hD : va_D (fun q : Nat => s.heap.size ≤ q) (w1 ++ w2) := f_Dm List.perm_append_comm hD
      refine lv_pop2_2 hx hb dL_law_1109 rfl ?_
      refine lv_goto (tgt := 1615) hx hb dL_law_1110 (by decide) ?_
      refine W.widen (k := cells + 18) (n := slots + 1522) (by omega) (by omega) ?_
      exact kk ob w1 w2 H locs ls I1 I2 hP hD hS (lv_sub hl [0, 1, 2, 3] rfl)
  · have f7 : ¬ a4.toInt = 0 := z_ne rfl (show Int32.toInt 0 = 0 from by decide) c_6
    refine lv_iconst (v := 1) hx hb dL_law_1083 (by decide) ?_
    refine lv_goto (tgt := 1088) hx hb dL_law_1084 (by decide) ?_
    refine f_finl (va_runV (As := [.int 1]) (rest := []) ⟨hx, hb, hml, hown, hts⟩ (q_X8_truth l dC dI cB cI cJ cZ cP cQ adK adV q0 a1 H.size ob w1 1 (show 0 ≤ Int32.toInt 1 from by decide) (show Int32.toInt 1 ≤ 1 from by decide) I1) (cwV 1 hts gT_X8_truth rfl rfl rfl (by decide +kernel) ⟨Nat.le_of_ble_eq_true rfl, Nat.le_of_ble_eq_true rfl⟩) (f_pV (ci := 8) hE hS hA hK hP hD hX rfl (IX_recv I1)) rfl rfl hl.1 rfl (lv_room (Nat.le_of_ble_eq_true rfl)) dL_law_1088 ⟨by show _ + 0 ≤ 600000; omega, by show _ + 0 ≤ 7302250; omega⟩) hP hD hS hA (fun r21 w1 H locs hp hP hD hS => ?_)
    obtain ⟨I1, h22⟩ := hp
    refine lv_pop2_2 hx hb dL_law_1091 rfl ?_
    refine lv_aload_n hx hb dL_law_1092 rfl (lv_at hl 1 rfl) ?_
    refine lv_aload_n hx hb dL_law_1093 rfl (lv_at hl 3 rfl) ?_
    refine lv_iload_n hx hb dL_law_1094 rfl (lv_at hl 0 rfl) ?_
    refine lv_iconst (v := 1) hx hb dL_law_1095 (by decide) ?_
    refine lv_iadd hx hb dL_law_1096 ?_
    refine lv_topi (fun r23 h24 => ?_)
    have f25 : r23.toInt = x3.toInt + 1 := z_iadd h24 rfl (show Int32.toInt 1 = 1 from by decide) (by omega) (by omega)
    refine va_sld hx hb hXs hbl hbA hS (z_in rfl (by omega) (by omega)) dL_law_1097 ?_
    refine lv_topi (fun a26 h27 => ?_)
    refine lv_if_eq (tgt := 1105) hx hb dL_law_1098 (by decide) (fun c_28 => ?_) (fun c_28 => ?_)
    · have f29 : a26.toInt = 0 := z_eq rfl (show Int32.toInt 0 = 0 from by decide) c_28
      refine lv_iconst (v := 0) hx hb dL_law_1105 (by decide) ?_
      have hP : va_P (dC, dI) vwCl (w2 ++ w1) H := f_Pm List.perm_append_comm hP
      have hD : va_D (fun q : Nat => s.heap.size ≤ q) (w2 ++ w1) := f_Dm List.perm_append_comm hD
      refine f_finl (va_runV (As := [.int 0]) (rest := []) ⟨hx, hb, hml, hown, hts⟩ (q_X9_truth l dC dI cB cI cJ cZ cP cQ adK adV q0 a2 H.size ob w2 0 (show 0 ≤ Int32.toInt 0 from by decide) (show Int32.toInt 0 ≤ 1 from by decide) I2) (cwV 1 hts gT_X9_truth rfl rfl rfl (by decide +kernel) ⟨Nat.le_of_ble_eq_true rfl, Nat.le_of_ble_eq_true rfl⟩) (f_pV (ci := 9) hE hS hA hK hP hD hX rfl (IM_recv I2)) rfl rfl hl.1 rfl (lv_room (Nat.le_of_ble_eq_true rfl)) dL_law_1106 ⟨by show _ + 0 ≤ 600000; omega, by show _ + 0 ≤ 7302250; omega⟩) hP hD hS hA (fun r30 w2 H locs hp hP hD hS => ?_)
      obtain ⟨I2, h31⟩ := hp
      have hP : va_P (dC, dI) vwCl (w1 ++ w2) H := f_Pm List.perm_append_comm hP
      have hD : va_D (fun q : Nat => s.heap.size ≤ q) (w1 ++ w2) := f_Dm List.perm_append_comm hD
      refine lv_pop2_2 hx hb dL_law_1109 rfl ?_
      refine lv_goto (tgt := 1615) hx hb dL_law_1110 (by decide) ?_
      refine W.widen (k := cells + 18) (n := slots + 1522) (by omega) (by omega) ?_
      exact kk ob w1 w2 H locs ls I1 I2 hP hD hS (lv_sub hl [0, 1, 2, 3] rfl)
    · have f29 : ¬ a26.toInt = 0 := z_ne rfl (show Int32.toInt 0 = 0 from by decide) c_28
      refine lv_iconst (v := 1) hx hb dL_law_1101 (by decide) ?_
      refine lv_goto (tgt := 1106) hx hb dL_law_1102 (by decide) ?_
      have hP : va_P (dC, dI) vwCl (w2 ++ w1) H := f_Pm List.perm_append_comm hP
      have hD : va_D (fun q : Nat => s.heap.size ≤ q) (w2 ++ w1) := f_Dm List.perm_append_comm hD
      refine f_finl (va_runV (As := [.int 1]) (rest := []) ⟨hx, hb, hml, hown, hts⟩ (q_X9_truth l dC dI cB cI cJ cZ cP cQ adK adV q0 a2 H.size ob w2 1 (show 0 ≤ Int32.toInt 1 from by decide) (show Int32.toInt 1 ≤ 1 from by decide) I2) (cwV 1 hts gT_X9_truth rfl rfl rfl (by decide +kernel) ⟨Nat.le_of_ble_eq_true rfl, Nat.le_of_ble_eq_true rfl⟩) (f_pV (ci := 9) hE hS hA hK hP hD hX rfl (IM_recv I2)) rfl rfl hl.1 rfl (lv_room (Nat.le_of_ble_eq_true rfl)) dL_law_1106 ⟨by show _ + 0 ≤ 600000; omega, by show _ + 0 ≤ 7302250; omega⟩) hP hD hS hA (fun r32 w2 H locs hp hP hD hS => ?_)
      obtain ⟨I2, h33⟩ := hp
      have hP : va_P (dC, dI) vwCl (w1 ++ w2) H := f_Pm List.perm_append_comm hP
      have hD : va_D (fun q : Nat => s.heap.size ≤ q) (w1 ++ w2) := f_Dm List.perm_append_comm hD
      refine lv_pop2_2 hx hb dL_law_1109 rfl ?_
      refine lv_goto (tgt := 1615) hx hb dL_law_1110 (by decide) ?_
      refine W.widen (k := cells + 18) (n := slots + 1522) (by omega) (by omega) ?_
      exact kk ob w1 w2 H locs ls I1 I2 hP hD hS (lv_sub hl [0, 1, 2, 3] rfl)
set_option maxHeartbeats 8000000 in
set_option maxRecDepth 100000 in
theorem law_case29 {p : Program} {e : Env} {s : State} {m : MethodId} {below : List Frame} {meth : Method} {c : Code} {b L : Nat} {xs : Nat → Int32} (l : Launch) (dC : Nat → ClassId) (dI : Nat → Nat → Nat) (cB cI cJ cZ cP cQ : ClassId) (adK adV : Nat → Nat) (q0 : Option Nat) (a1 a2 : Nat) (x3 : Int32) (C0 : lw_At p s m meth c b L xs) (hL : L ≤ 3072) (hK : va_K (dC, dI) vwCl (zT cB cI cJ cZ cP cQ) s) (hX : zX zNW zAO s) (hE : zE adK adV q0 (fun q : Nat => s.heap.size ≤ q) s s.heap) (i cells slots : Nat) (hi : x3.toInt = i) (hiL : i + 6 ≤ L) (hc : cells + 18 ≤ 600000) (hs : slots + 1522 ≤ 7302250) (ob : Nat → Int32) (w1 w2 : va_W) (I1 : IX cB cI cJ cZ cP cQ a1 ob w1) (I2 : IM cB cI cJ cZ cP cQ a2 ob w2) (H : Heap) (locs : List Loc) (hP : va_P (dC, dI) vwCl (w1 ++ w2) H) (hD : va_D (fun q : Nat => s.heap.size ≤ q) (w1 ++ w2)) (hS : va_S (fun q : Nat => s.heap.size ≤ q) s.heap H locs) (ls : Array Slot) (hl : lv_has ls 4 [(3, .int x3), (2, .ref a2), (1, .ref a1), (0, .ref b)]) (kk : ∀ (ob : Nat → Int32) (w1 w2 : va_W) (H : Heap) (locs : List Loc) (ls : Array Slot), IX cB cI cJ cZ cP cQ a1 ob w1 → IM cB cI cJ cZ cP cQ a2 ob w2 → va_P (dC, dI) vwCl (w1 ++ w2) H → va_D (fun q : Nat => s.heap.size ≤ q) (w1 ++ w2) → va_S (fun q : Nat => s.heap.size ≤ q) s.heap H locs → lv_has ls 4 [(3, .int x3), (2, .ref a2), (1, .ref a1), (0, .ref b)] → W p l e room_1 s m #[Value.ref b] below meth c H locs (cells + 18) (slots + 1522) (lw_Z below #[Value.ref b] s) (F0 m 1615 ls [])) : W p l e room_1 s m #[Value.ref b] below meth c H locs cells slots (lw_Z below #[Value.ref b] s) (F0 m 1113 ls []) := by
  obtain ⟨hx, hb, hr, hml, hown, hts, hXs, hbl, hlocks, hgv⟩ := id C0
  have hown : s.vm.findClass RL = some m.cls := hown
  have hA : ∀ q : Nat, s.heap.size ≤ q → (fun q : Nat => s.heap.size ≤ q) q := fun _ h => h
  have hbA : ¬ (fun q : Nat => s.heap.size ≤ q) b := Nat.not_le.mpr hbl
  refine lv_aload_n hx hb dL_law_1113 rfl (lv_at hl 2 rfl) ?_
  refine lv_aload_n hx hb dL_law_1114 rfl (lv_at hl 3 rfl) ?_
  refine lv_iload_n hx hb dL_law_1115 rfl (lv_at hl 0 rfl) ?_
  refine lv_iconst (v := 1) hx hb dL_law_1116 (by decide) ?_
  refine lv_iadd hx hb dL_law_1117 ?_
  refine lv_topi (fun r1 h2 => ?_)
  have f3 : r1.toInt = x3.toInt + 1 := z_iadd h2 rfl (show Int32.toInt 1 = 1 from by decide) (by omega) (by omega)
  refine va_sld hx hb hXs hbl hbA hS (z_in rfl (by omega) (by omega)) dL_law_1118 ?_
  refine lv_topi (fun a4 h5 => ?_)
  refine lv_aload_n hx hb dL_law_1119 rfl (lv_at hl 3 rfl) ?_
  refine lv_iload_n hx hb dL_law_1120 rfl (lv_at hl 0 rfl) ?_
  refine lv_iconst (v := 2) hx hb dL_law_1121 (by decide) ?_
  refine lv_iadd hx hb dL_law_1122 ?_
  refine lv_topi (fun r6 h7 => ?_)
  have f8 : r6.toInt = x3.toInt + 2 := z_iadd h7 rfl (show Int32.toInt 2 = 2 from by decide) (by omega) (by omega)
  refine va_sld hx hb hXs hbl hbA hS (z_in rfl (by omega) (by omega)) dL_law_1123 ?_
  refine lv_topi (fun a9 h10 => ?_)
  refine f_finl (va_runV (As := [.int a4, .int a9]) (rest := []) ⟨hx, hb, hml, hown, hts⟩ (q_X8_leans l dC dI cB cI cJ cZ cP cQ adK adV q0 a1 H.size ob w1 a4 a9 I1) (cwV 2 hts gT_X8_leans rfl rfl rfl (by decide +kernel) ⟨Nat.le_of_ble_eq_true rfl, Nat.le_of_ble_eq_true rfl⟩) (f_pV (ci := 8) hE hS hA hK hP hD hX rfl (IX_recv I1)) rfl rfl hl.1 rfl (lv_room (Nat.le_of_ble_eq_true rfl)) dL_law_1124 ⟨by show _ + 0 ≤ 600000; omega, by show _ + 0 ≤ 7302250; omega⟩) hP hD hS hA (fun r11 w1 H locs hp hP hD hS => ?_)
  obtain ⟨I1, h12⟩ := hp
  refine lv_pop2_2 hx hb dL_law_1127 rfl ?_
  refine lv_aload_n hx hb dL_law_1128 rfl (lv_at hl 1 rfl) ?_
  refine lv_aload_n hx hb dL_law_1129 rfl (lv_at hl 3 rfl) ?_
  refine lv_iload_n hx hb dL_law_1130 rfl (lv_at hl 0 rfl) ?_
  refine lv_iconst (v := 1) hx hb dL_law_1131 (by decide) ?_
  refine lv_iadd hx hb dL_law_1132 ?_
  refine lv_topi (fun r13 h14 => ?_)
  have f15 : r13.toInt = x3.toInt + 1 := z_iadd h14 rfl (show Int32.toInt 1 = 1 from by decide) (by omega) (by omega)
  refine va_sld hx hb hXs hbl hbA hS (z_in rfl (by omega) (by omega)) dL_law_1133 ?_
  refine lv_topi (fun a16 h17 => ?_)
  refine lv_aload_n hx hb dL_law_1134 rfl (lv_at hl 3 rfl) ?_
  refine lv_iload_n hx hb dL_law_1135 rfl (lv_at hl 0 rfl) ?_
  refine lv_iconst (v := 2) hx hb dL_law_1136 (by decide) ?_
  refine lv_iadd hx hb dL_law_1137 ?_
  refine lv_topi (fun r18 h19 => ?_)
  have f20 : r18.toInt = x3.toInt + 2 := z_iadd h19 rfl (show Int32.toInt 2 = 2 from by decide) (by omega) (by omega)
  refine va_sld hx hb hXs hbl hbA hS (z_in rfl (by omega) (by omega)) dL_law_1138 ?_
  refine lv_topi (fun a21 h22 => ?_)
  have hP : va_P (dC, dI) vwCl (w2 ++ w1) H := f_Pm List.perm_append_comm hP
  have hD : va_D (fun q : Nat => s.heap.size ≤ q) (w2 ++ w1) := f_Dm List.perm_append_comm hD
  refine f_finl (va_runV (As := [.int a16, .int a21]) (rest := []) ⟨hx, hb, hml, hown, hts⟩ (q_X9_leans l dC dI cB cI cJ cZ cP cQ adK adV q0 a2 H.size ob w2 a16 a21 I2) (cwV 2 hts gT_X9_leans rfl rfl rfl (by decide +kernel) ⟨Nat.le_of_ble_eq_true rfl, Nat.le_of_ble_eq_true rfl⟩) (f_pV (ci := 9) hE hS hA hK hP hD hX rfl (IM_recv I2)) rfl rfl hl.1 rfl (lv_room (Nat.le_of_ble_eq_true rfl)) dL_law_1139 ⟨by show _ + 0 ≤ 600000; omega, by show _ + 0 ≤ 7302250; omega⟩) hP hD hS hA (fun r23 w2 H locs hp hP hD hS => ?_)
  obtain ⟨I2, h24⟩ := hp
  have hP : va_P (dC, dI) vwCl (w1 ++ w2) H := f_Pm List.perm_append_comm hP
  have hD : va_D (fun q : Nat => s.heap.size ≤ q) (w1 ++ w2) := f_Dm List.perm_append_comm hD
  refine lv_pop2_2 hx hb dL_law_1142 rfl ?_
  refine lv_goto (tgt := 1615) hx hb dL_law_1143 (by decide) ?_
  refine W.widen (k := cells + 18) (n := slots + 1522) (by omega) (by omega) ?_
  exact kk ob w1 w2 H locs ls I1 I2 hP hD hS (lv_sub hl [0, 1, 2, 3] rfl)
set_option maxHeartbeats 8000000 in
set_option maxRecDepth 100000 in
theorem law_case30 {p : Program} {e : Env} {s : State} {m : MethodId} {below : List Frame} {meth : Method} {c : Code} {b L : Nat} {xs : Nat → Int32} (l : Launch) (dC : Nat → ClassId) (dI : Nat → Nat → Nat) (cB cI cJ cZ cP cQ : ClassId) (adK adV : Nat → Nat) (q0 : Option Nat) (a1 a2 : Nat) (x3 : Int32) (C0 : lw_At p s m meth c b L xs) (hL : L ≤ 3072) (hK : va_K (dC, dI) vwCl (zT cB cI cJ cZ cP cQ) s) (hX : zX zNW zAO s) (hE : zE adK adV q0 (fun q : Nat => s.heap.size ≤ q) s s.heap) (i cells slots : Nat) (hi : x3.toInt = i) (hiL : i + 6 ≤ L) (hc : cells + 18 ≤ 600000) (hs : slots + 1522 ≤ 7302250) (ob : Nat → Int32) (w1 w2 : va_W) (I1 : IX cB cI cJ cZ cP cQ a1 ob w1) (I2 : IM cB cI cJ cZ cP cQ a2 ob w2) (H : Heap) (locs : List Loc) (hP : va_P (dC, dI) vwCl (w1 ++ w2) H) (hD : va_D (fun q : Nat => s.heap.size ≤ q) (w1 ++ w2)) (hS : va_S (fun q : Nat => s.heap.size ≤ q) s.heap H locs) (ls : Array Slot) (hl : lv_has ls 4 [(3, .int x3), (2, .ref a2), (1, .ref a1), (0, .ref b)]) (kk : ∀ (ob : Nat → Int32) (w1 w2 : va_W) (H : Heap) (locs : List Loc) (ls : Array Slot), IX cB cI cJ cZ cP cQ a1 ob w1 → IM cB cI cJ cZ cP cQ a2 ob w2 → va_P (dC, dI) vwCl (w1 ++ w2) H → va_D (fun q : Nat => s.heap.size ≤ q) (w1 ++ w2) → va_S (fun q : Nat => s.heap.size ≤ q) s.heap H locs → lv_has ls 4 [(3, .int x3), (2, .ref a2), (1, .ref a1), (0, .ref b)] → W p l e room_1 s m #[Value.ref b] below meth c H locs (cells + 18) (slots + 1522) (lw_Z below #[Value.ref b] s) (F0 m 1615 ls [])) : W p l e room_1 s m #[Value.ref b] below meth c H locs cells slots (lw_Z below #[Value.ref b] s) (F0 m 1146 ls []) := by
  obtain ⟨hx, hb, hr, hml, hown, hts, hXs, hbl, hlocks, hgv⟩ := id C0
  have hown : s.vm.findClass RL = some m.cls := hown
  have hA : ∀ q : Nat, s.heap.size ≤ q → (fun q : Nat => s.heap.size ≤ q) q := fun _ h => h
  have hbA : ¬ (fun q : Nat => s.heap.size ≤ q) b := Nat.not_le.mpr hbl
  refine lv_aload_n hx hb dL_law_1146 rfl (lv_at hl 2 rfl) ?_
  refine lv_aload_n hx hb dL_law_1147 rfl (lv_at hl 3 rfl) ?_
  refine lv_iload_n hx hb dL_law_1148 rfl (lv_at hl 0 rfl) ?_
  refine lv_iconst (v := 1) hx hb dL_law_1149 (by decide) ?_
  refine lv_iadd hx hb dL_law_1150 ?_
  refine lv_topi (fun r1 h2 => ?_)
  have f3 : r1.toInt = x3.toInt + 1 := z_iadd h2 rfl (show Int32.toInt 1 = 1 from by decide) (by omega) (by omega)
  refine va_sld hx hb hXs hbl hbA hS (z_in rfl (by omega) (by omega)) dL_law_1151 ?_
  refine lv_topi (fun a4 h5 => ?_)
  refine f_fini (va_runV (As := [.int a4]) (rest := []) ⟨hx, hb, hml, hown, hts⟩ (q_X8_least l dC dI cB cI cJ cZ cP cQ adK adV q0 a1 H.size ob w1 a4 I1) (cwV 1 hts gT_X8_least rfl rfl rfl (by decide +kernel) ⟨Nat.le_of_ble_eq_true rfl, Nat.le_of_ble_eq_true rfl⟩) (f_pV (ci := 8) hE hS hA hK hP hD hX rfl (IX_recv I1)) rfl rfl hl.1 rfl (lv_room (Nat.le_of_ble_eq_true rfl)) dL_law_1152 ⟨by show _ + 0 ≤ 600000; omega, by show _ + 0 ≤ 7302250; omega⟩) hP hD hS hA (fun r6 w1 H locs hp hP hD hS => ?_)
  obtain ⟨I1, h7⟩ := hp
  refine lv_pop hx hb dL_law_1155 rfl ?_
  refine lv_aload_n hx hb dL_law_1156 rfl (lv_at hl 1 rfl) ?_
  refine lv_aload_n hx hb dL_law_1157 rfl (lv_at hl 3 rfl) ?_
  refine lv_iload_n hx hb dL_law_1158 rfl (lv_at hl 0 rfl) ?_
  refine lv_iconst (v := 1) hx hb dL_law_1159 (by decide) ?_
  refine lv_iadd hx hb dL_law_1160 ?_
  refine lv_topi (fun r8 h9 => ?_)
  have f10 : r8.toInt = x3.toInt + 1 := z_iadd h9 rfl (show Int32.toInt 1 = 1 from by decide) (by omega) (by omega)
  refine va_sld hx hb hXs hbl hbA hS (z_in rfl (by omega) (by omega)) dL_law_1161 ?_
  refine lv_topi (fun a11 h12 => ?_)
  have hP : va_P (dC, dI) vwCl (w2 ++ w1) H := f_Pm List.perm_append_comm hP
  have hD : va_D (fun q : Nat => s.heap.size ≤ q) (w2 ++ w1) := f_Dm List.perm_append_comm hD
  refine f_fini (va_runV (As := [.int a11]) (rest := []) ⟨hx, hb, hml, hown, hts⟩ (q_X9_least l dC dI cB cI cJ cZ cP cQ adK adV q0 a2 H.size ob w2 a11 I2) (cwV 1 hts gT_X9_least rfl rfl rfl (by decide +kernel) ⟨Nat.le_of_ble_eq_true rfl, Nat.le_of_ble_eq_true rfl⟩) (f_pV (ci := 9) hE hS hA hK hP hD hX rfl (IM_recv I2)) rfl rfl hl.1 rfl (lv_room (Nat.le_of_ble_eq_true rfl)) dL_law_1162 ⟨by show _ + 0 ≤ 600000; omega, by show _ + 0 ≤ 7302250; omega⟩) hP hD hS hA (fun r13 w2 H locs hp hP hD hS => ?_)
  obtain ⟨I2, h14⟩ := hp
  have hP : va_P (dC, dI) vwCl (w1 ++ w2) H := f_Pm List.perm_append_comm hP
  have hD : va_D (fun q : Nat => s.heap.size ≤ q) (w1 ++ w2) := f_Dm List.perm_append_comm hD
  refine lv_pop hx hb dL_law_1165 rfl ?_
  refine lv_goto (tgt := 1615) hx hb dL_law_1166 (by decide) ?_
  refine W.widen (k := cells + 18) (n := slots + 1522) (by omega) (by omega) ?_
  exact kk ob w1 w2 H locs ls I1 I2 hP hD hS (lv_sub hl [0, 1, 2, 3] rfl)
set_option maxHeartbeats 8000000 in
set_option maxRecDepth 100000 in
theorem law_case31 {p : Program} {e : Env} {s : State} {m : MethodId} {below : List Frame} {meth : Method} {c : Code} {b L : Nat} {xs : Nat → Int32} (l : Launch) (dC : Nat → ClassId) (dI : Nat → Nat → Nat) (cB cI cJ cZ cP cQ : ClassId) (adK adV : Nat → Nat) (q0 : Option Nat) (a1 a2 : Nat) (x3 : Int32) (C0 : lw_At p s m meth c b L xs) (hL : L ≤ 3072) (hK : va_K (dC, dI) vwCl (zT cB cI cJ cZ cP cQ) s) (hX : zX zNW zAO s) (hE : zE adK adV q0 (fun q : Nat => s.heap.size ≤ q) s s.heap) (i cells slots : Nat) (hi : x3.toInt = i) (hiL : i + 6 ≤ L) (hc : cells + 18 ≤ 600000) (hs : slots + 1522 ≤ 7302250) (ob : Nat → Int32) (w1 w2 : va_W) (I1 : IX cB cI cJ cZ cP cQ a1 ob w1) (I2 : IM cB cI cJ cZ cP cQ a2 ob w2) (H : Heap) (locs : List Loc) (hP : va_P (dC, dI) vwCl (w1 ++ w2) H) (hD : va_D (fun q : Nat => s.heap.size ≤ q) (w1 ++ w2)) (hS : va_S (fun q : Nat => s.heap.size ≤ q) s.heap H locs) (ls : Array Slot) (hl : lv_has ls 4 [(3, .int x3), (2, .ref a2), (1, .ref a1), (0, .ref b)]) (kk : ∀ (ob : Nat → Int32) (w1 w2 : va_W) (H : Heap) (locs : List Loc) (ls : Array Slot), IX cB cI cJ cZ cP cQ a1 ob w1 → IM cB cI cJ cZ cP cQ a2 ob w2 → va_P (dC, dI) vwCl (w1 ++ w2) H → va_D (fun q : Nat => s.heap.size ≤ q) (w1 ++ w2) → va_S (fun q : Nat => s.heap.size ≤ q) s.heap H locs → lv_has ls 4 [(3, .int x3), (2, .ref a2), (1, .ref a1), (0, .ref b)] → W p l e room_1 s m #[Value.ref b] below meth c H locs (cells + 18) (slots + 1522) (lw_Z below #[Value.ref b] s) (F0 m 1615 ls [])) : W p l e room_1 s m #[Value.ref b] below meth c H locs cells slots (lw_Z below #[Value.ref b] s) (F0 m 1169 ls []) := by
  obtain ⟨hx, hb, hr, hml, hown, hts, hXs, hbl, hlocks, hgv⟩ := id C0
  have hown : s.vm.findClass RL = some m.cls := hown
  have hA : ∀ q : Nat, s.heap.size ≤ q → (fun q : Nat => s.heap.size ≤ q) q := fun _ h => h
  have hbA : ¬ (fun q : Nat => s.heap.size ≤ q) b := Nat.not_le.mpr hbl
  refine lv_aload_n hx hb dL_law_1169 rfl (lv_at hl 2 rfl) ?_
  refine lv_aload_n hx hb dL_law_1170 rfl (lv_at hl 3 rfl) ?_
  refine lv_iload_n hx hb dL_law_1171 rfl (lv_at hl 0 rfl) ?_
  refine lv_iconst (v := 1) hx hb dL_law_1172 (by decide) ?_
  refine lv_iadd hx hb dL_law_1173 ?_
  refine lv_topi (fun r1 h2 => ?_)
  have f3 : r1.toInt = x3.toInt + 1 := z_iadd h2 rfl (show Int32.toInt 1 = 1 from by decide) (by omega) (by omega)
  refine va_sld hx hb hXs hbl hbA hS (z_in rfl (by omega) (by omega)) dL_law_1174 ?_
  refine lv_topi (fun a4 h5 => ?_)
  refine lv_aload_n hx hb dL_law_1175 rfl (lv_at hl 3 rfl) ?_
  refine lv_iload_n hx hb dL_law_1176 rfl (lv_at hl 0 rfl) ?_
  refine lv_iconst (v := 2) hx hb dL_law_1177 (by decide) ?_
  refine lv_iadd hx hb dL_law_1178 ?_
  refine lv_topi (fun r6 h7 => ?_)
  have f8 : r6.toInt = x3.toInt + 2 := z_iadd h7 rfl (show Int32.toInt 2 = 2 from by decide) (by omega) (by omega)
  refine va_sld hx hb hXs hbl hbA hS (z_in rfl (by omega) (by omega)) dL_law_1179 ?_
  refine lv_topi (fun a9 h10 => ?_)
  refine f_fini (va_runV (As := [.int a4, .int a9]) (rest := []) ⟨hx, hb, hml, hown, hts⟩ (q_X8_beside l dC dI cB cI cJ cZ cP cQ adK adV q0 a1 H.size ob w1 a4 a9 I1) (cwV 2 hts gT_X8_beside rfl rfl rfl (by decide +kernel) ⟨Nat.le_of_ble_eq_true rfl, Nat.le_of_ble_eq_true rfl⟩) (f_pV (ci := 8) hE hS hA hK hP hD hX rfl (IX_recv I1)) rfl rfl hl.1 rfl (lv_room (Nat.le_of_ble_eq_true rfl)) dL_law_1180 ⟨by show _ + 0 ≤ 600000; omega, by show _ + 0 ≤ 7302250; omega⟩) hP hD hS hA (fun r11 w1 H locs hp hP hD hS => ?_)
  obtain ⟨I1, h12⟩ := hp
  refine lv_pop hx hb dL_law_1183 rfl ?_
  refine lv_aload_n hx hb dL_law_1184 rfl (lv_at hl 1 rfl) ?_
  refine lv_aload_n hx hb dL_law_1185 rfl (lv_at hl 3 rfl) ?_
  refine lv_iload_n hx hb dL_law_1186 rfl (lv_at hl 0 rfl) ?_
  refine lv_iconst (v := 1) hx hb dL_law_1187 (by decide) ?_
  refine lv_iadd hx hb dL_law_1188 ?_
  refine lv_topi (fun r13 h14 => ?_)
  have f15 : r13.toInt = x3.toInt + 1 := z_iadd h14 rfl (show Int32.toInt 1 = 1 from by decide) (by omega) (by omega)
  refine va_sld hx hb hXs hbl hbA hS (z_in rfl (by omega) (by omega)) dL_law_1189 ?_
  refine lv_topi (fun a16 h17 => ?_)
  refine lv_aload_n hx hb dL_law_1190 rfl (lv_at hl 3 rfl) ?_
  refine lv_iload_n hx hb dL_law_1191 rfl (lv_at hl 0 rfl) ?_
  refine lv_iconst (v := 2) hx hb dL_law_1192 (by decide) ?_
  refine lv_iadd hx hb dL_law_1193 ?_
  refine lv_topi (fun r18 h19 => ?_)
  have f20 : r18.toInt = x3.toInt + 2 := z_iadd h19 rfl (show Int32.toInt 2 = 2 from by decide) (by omega) (by omega)
  refine va_sld hx hb hXs hbl hbA hS (z_in rfl (by omega) (by omega)) dL_law_1194 ?_
  refine lv_topi (fun a21 h22 => ?_)
  have hP : va_P (dC, dI) vwCl (w2 ++ w1) H := f_Pm List.perm_append_comm hP
  have hD : va_D (fun q : Nat => s.heap.size ≤ q) (w2 ++ w1) := f_Dm List.perm_append_comm hD
  refine f_fini (va_runV (As := [.int a16, .int a21]) (rest := []) ⟨hx, hb, hml, hown, hts⟩ (q_X9_beside l dC dI cB cI cJ cZ cP cQ adK adV q0 a2 H.size ob w2 a16 a21 I2) (cwV 2 hts gT_X9_beside rfl rfl rfl (by decide +kernel) ⟨Nat.le_of_ble_eq_true rfl, Nat.le_of_ble_eq_true rfl⟩) (f_pV (ci := 9) hE hS hA hK hP hD hX rfl (IM_recv I2)) rfl rfl hl.1 rfl (lv_room (Nat.le_of_ble_eq_true rfl)) dL_law_1195 ⟨by show _ + 0 ≤ 600000; omega, by show _ + 0 ≤ 7302250; omega⟩) hP hD hS hA (fun r23 w2 H locs hp hP hD hS => ?_)
  obtain ⟨I2, h24⟩ := hp
  have hP : va_P (dC, dI) vwCl (w1 ++ w2) H := f_Pm List.perm_append_comm hP
  have hD : va_D (fun q : Nat => s.heap.size ≤ q) (w1 ++ w2) := f_Dm List.perm_append_comm hD
  refine lv_pop hx hb dL_law_1198 rfl ?_
  refine lv_goto (tgt := 1615) hx hb dL_law_1199 (by decide) ?_
  refine W.widen (k := cells + 18) (n := slots + 1522) (by omega) (by omega) ?_
  exact kk ob w1 w2 H locs ls I1 I2 hP hD hS (lv_sub hl [0, 1, 2, 3] rfl)
set_option maxHeartbeats 8000000 in
set_option maxRecDepth 100000 in
theorem law_case32 {p : Program} {e : Env} {s : State} {m : MethodId} {below : List Frame} {meth : Method} {c : Code} {b L : Nat} {xs : Nat → Int32} (l : Launch) (dC : Nat → ClassId) (dI : Nat → Nat → Nat) (cB cI cJ cZ cP cQ : ClassId) (adK adV : Nat → Nat) (q0 : Option Nat) (a1 a2 : Nat) (x3 : Int32) (C0 : lw_At p s m meth c b L xs) (hL : L ≤ 3072) (hK : va_K (dC, dI) vwCl (zT cB cI cJ cZ cP cQ) s) (hX : zX zNW zAO s) (hE : zE adK adV q0 (fun q : Nat => s.heap.size ≤ q) s s.heap) (i cells slots : Nat) (hi : x3.toInt = i) (hiL : i + 6 ≤ L) (hc : cells + 18 ≤ 600000) (hs : slots + 1522 ≤ 7302250) (ob : Nat → Int32) (w1 w2 : va_W) (I1 : IX cB cI cJ cZ cP cQ a1 ob w1) (I2 : IM cB cI cJ cZ cP cQ a2 ob w2) (H : Heap) (locs : List Loc) (hP : va_P (dC, dI) vwCl (w1 ++ w2) H) (hD : va_D (fun q : Nat => s.heap.size ≤ q) (w1 ++ w2)) (hS : va_S (fun q : Nat => s.heap.size ≤ q) s.heap H locs) (ls : Array Slot) (hl : lv_has ls 4 [(3, .int x3), (2, .ref a2), (1, .ref a1), (0, .ref b)]) (kk : ∀ (ob : Nat → Int32) (w1 w2 : va_W) (H : Heap) (locs : List Loc) (ls : Array Slot), IX cB cI cJ cZ cP cQ a1 ob w1 → IM cB cI cJ cZ cP cQ a2 ob w2 → va_P (dC, dI) vwCl (w1 ++ w2) H → va_D (fun q : Nat => s.heap.size ≤ q) (w1 ++ w2) → va_S (fun q : Nat => s.heap.size ≤ q) s.heap H locs → lv_has ls 4 [(3, .int x3), (2, .ref a2), (1, .ref a1), (0, .ref b)] → W p l e room_1 s m #[Value.ref b] below meth c H locs (cells + 18) (slots + 1522) (lw_Z below #[Value.ref b] s) (F0 m 1615 ls [])) : W p l e room_1 s m #[Value.ref b] below meth c H locs cells slots (lw_Z below #[Value.ref b] s) (F0 m 1202 ls []) := by
  obtain ⟨hx, hb, hr, hml, hown, hts, hXs, hbl, hlocks, hgv⟩ := id C0
  have hown : s.vm.findClass RL = some m.cls := hown
  have hA : ∀ q : Nat, s.heap.size ≤ q → (fun q : Nat => s.heap.size ≤ q) q := fun _ h => h
  have hbA : ¬ (fun q : Nat => s.heap.size ≤ q) b := Nat.not_le.mpr hbl
  refine lv_aload_n hx hb dL_law_1202 rfl (lv_at hl 2 rfl) ?_
  refine lv_aload_n hx hb dL_law_1203 rfl (lv_at hl 3 rfl) ?_
  refine lv_iload_n hx hb dL_law_1204 rfl (lv_at hl 0 rfl) ?_
  refine lv_iconst (v := 1) hx hb dL_law_1205 (by decide) ?_
  refine lv_iadd hx hb dL_law_1206 ?_
  refine lv_topi (fun r1 h2 => ?_)
  have f3 : r1.toInt = x3.toInt + 1 := z_iadd h2 rfl (show Int32.toInt 1 = 1 from by decide) (by omega) (by omega)
  refine va_sld hx hb hXs hbl hbA hS (z_in rfl (by omega) (by omega)) dL_law_1207 ?_
  refine lv_topi (fun a4 h5 => ?_)
  refine lv_aload_n hx hb dL_law_1208 rfl (lv_at hl 3 rfl) ?_
  refine lv_iload_n hx hb dL_law_1209 rfl (lv_at hl 0 rfl) ?_
  refine lv_iconst (v := 2) hx hb dL_law_1210 (by decide) ?_
  refine lv_iadd hx hb dL_law_1211 ?_
  refine lv_topi (fun r6 h7 => ?_)
  have f8 : r6.toInt = x3.toInt + 2 := z_iadd h7 rfl (show Int32.toInt 2 = 2 from by decide) (by omega) (by omega)
  refine va_sld hx hb hXs hbl hbA hS (z_in rfl (by omega) (by omega)) dL_law_1212 ?_
  refine lv_topi (fun a9 h10 => ?_)
  refine f_fini (va_runV (As := [.int a4, .int a9]) (rest := []) ⟨hx, hb, hml, hown, hts⟩ (q_X8_needs l dC dI cB cI cJ cZ cP cQ adK adV q0 a1 H.size ob w1 a4 a9 I1) (cwV 2 hts gT_X8_needs rfl rfl rfl (by decide +kernel) ⟨Nat.le_of_ble_eq_true rfl, Nat.le_of_ble_eq_true rfl⟩) (f_pV (ci := 8) hE hS hA hK hP hD hX rfl (IX_recv I1)) rfl rfl hl.1 rfl (lv_room (Nat.le_of_ble_eq_true rfl)) dL_law_1213 ⟨by show _ + 0 ≤ 600000; omega, by show _ + 0 ≤ 7302250; omega⟩) hP hD hS hA (fun r11 w1 H locs hp hP hD hS => ?_)
  obtain ⟨I1, h12⟩ := hp
  refine lv_pop hx hb dL_law_1216 rfl ?_
  refine lv_aload_n hx hb dL_law_1217 rfl (lv_at hl 1 rfl) ?_
  refine lv_aload_n hx hb dL_law_1218 rfl (lv_at hl 3 rfl) ?_
  refine lv_iload_n hx hb dL_law_1219 rfl (lv_at hl 0 rfl) ?_
  refine lv_iconst (v := 1) hx hb dL_law_1220 (by decide) ?_
  refine lv_iadd hx hb dL_law_1221 ?_
  refine lv_topi (fun r13 h14 => ?_)
  have f15 : r13.toInt = x3.toInt + 1 := z_iadd h14 rfl (show Int32.toInt 1 = 1 from by decide) (by omega) (by omega)
  refine va_sld hx hb hXs hbl hbA hS (z_in rfl (by omega) (by omega)) dL_law_1222 ?_
  refine lv_topi (fun a16 h17 => ?_)
  refine lv_aload_n hx hb dL_law_1223 rfl (lv_at hl 3 rfl) ?_
  refine lv_iload_n hx hb dL_law_1224 rfl (lv_at hl 0 rfl) ?_
  refine lv_iconst (v := 2) hx hb dL_law_1225 (by decide) ?_
  refine lv_iadd hx hb dL_law_1226 ?_
  refine lv_topi (fun r18 h19 => ?_)
  have f20 : r18.toInt = x3.toInt + 2 := z_iadd h19 rfl (show Int32.toInt 2 = 2 from by decide) (by omega) (by omega)
  refine va_sld hx hb hXs hbl hbA hS (z_in rfl (by omega) (by omega)) dL_law_1227 ?_
  refine lv_topi (fun a21 h22 => ?_)
  have hP : va_P (dC, dI) vwCl (w2 ++ w1) H := f_Pm List.perm_append_comm hP
  have hD : va_D (fun q : Nat => s.heap.size ≤ q) (w2 ++ w1) := f_Dm List.perm_append_comm hD
  refine f_fini (va_runV (As := [.int a16, .int a21]) (rest := []) ⟨hx, hb, hml, hown, hts⟩ (q_X9_needs l dC dI cB cI cJ cZ cP cQ adK adV q0 a2 H.size ob w2 a16 a21 I2) (cwV 2 hts gT_X9_needs rfl rfl rfl (by decide +kernel) ⟨Nat.le_of_ble_eq_true rfl, Nat.le_of_ble_eq_true rfl⟩) (f_pV (ci := 9) hE hS hA hK hP hD hX rfl (IM_recv I2)) rfl rfl hl.1 rfl (lv_room (Nat.le_of_ble_eq_true rfl)) dL_law_1228 ⟨by show _ + 0 ≤ 600000; omega, by show _ + 0 ≤ 7302250; omega⟩) hP hD hS hA (fun r23 w2 H locs hp hP hD hS => ?_)
  obtain ⟨I2, h24⟩ := hp
  have hP : va_P (dC, dI) vwCl (w1 ++ w2) H := f_Pm List.perm_append_comm hP
  have hD : va_D (fun q : Nat => s.heap.size ≤ q) (w1 ++ w2) := f_Dm List.perm_append_comm hD
  refine lv_pop hx hb dL_law_1231 rfl ?_
  refine lv_goto (tgt := 1615) hx hb dL_law_1232 (by decide) ?_
  refine W.widen (k := cells + 18) (n := slots + 1522) (by omega) (by omega) ?_
  exact kk ob w1 w2 H locs ls I1 I2 hP hD hS (lv_sub hl [0, 1, 2, 3] rfl)
