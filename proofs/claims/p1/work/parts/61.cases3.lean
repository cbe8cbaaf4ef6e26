set_option maxHeartbeats 4000000 in
set_option maxRecDepth 100000 in
theorem law_case33 {p : Program} {e : Env} {s : State} {m : MethodId} {below : List Frame} {meth : Method} {c : Code} {b : Nat} {xs : Nat → Int32} (l : Launch) (dC : Nat → ClassId) (dI : Nat → Nat → Nat) (cB cI cJ cZ cP cQ : ClassId) (ad am : Nat → Nat) (C0 : lw_At p s m meth c b 6 xs) (H : Heap) (locs : List Loc) (hK : va_K (dC, dI) vwCl (zT cB cI cJ cZ cP cQ) s) (hP : va_P (dC, dI) vwCl (zxw cB cI cJ cZ cP cQ ad ++ zmw cB cI cJ cZ cP cQ am) H) (hD : va_D (fun q : Nat => s.heap.size ≤ q) (zxw cB cI cJ cZ cP cQ ad ++ zmw cB cI cJ cZ cP cQ am)) (hS : va_S (fun q : Nat => s.heap.size ≤ q) s.heap H locs) (hX : zX [(RX1, 44, yX8_thousandths, "MonthPush"), (RX2, 18, yX5_init, "MonthPush"), (RX8, 380, yX2_init, "MonthPush")] [] s) (ls : Array Slot) (hl : lv_has ls 4 [(3, .int 0), (2, .ref (am 0)), (1, .ref (ad 0)), (0, .ref b)]) : W p l e room_1 s m #[Value.ref b] below meth c H locs 90 14039 (lw_Z below #[Value.ref b] s) (F0 m 1245 ls []) := by
  obtain ⟨hx, hb, hr, hml, hown, hts, hXs, hbl, hlocks, hgv⟩ := id C0
  have hown : s.vm.findClass RL = some m.cls := hown
  have hA : ∀ q : Nat, s.heap.size ≤ q → (fun q : Nat => s.heap.size ≤ q) q := fun _ h => h
  have hbA : ¬ (fun q : Nat => s.heap.size ≤ q) b := Nat.not_le.mpr hbl
  refine lv_aload_n hx hb dL_law_1245 rfl (lv_at hl 2 rfl) ?_
  refine lv_aload_n hx hb dL_law_1246 rfl (lv_at hl 3 rfl) ?_
  refine lv_iload_n hx hb dL_law_1247 rfl (lv_at hl 0 rfl) ?_
  refine lv_iconst (v := 1) hx hb dL_law_1248 (by decide) ?_
  refine lv_iadd hx hb dL_law_1249 ?_
  refine z_topi (y := 1) (by decide +kernel) ?_
  refine va_sld hx hb hXs hbl hbA hS (z_in (a := 1) (by decide) (by decide) (by decide)) dL_law_1250 ?_
  refine z_topi (y := xs 1) rfl ?_
  refine lv_aload_n hx hb dL_law_1251 rfl (lv_at hl 3 rfl) ?_
  refine lv_iload_n hx hb dL_law_1252 rfl (lv_at hl 0 rfl) ?_
  refine lv_iconst (v := 2) hx hb dL_law_1253 (by decide) ?_
  refine lv_iadd hx hb dL_law_1254 ?_
  refine z_topi (y := 2) (by decide +kernel) ?_
  refine va_sld hx hb hXs hbl hbA hS (z_in (a := 2) (by decide) (by decide) (by decide)) dL_law_1255 ?_
  refine z_topi (y := xs 2) rfl ?_
  refine lv_aload_n hx hb dL_law_1256 rfl (lv_at hl 3 rfl) ?_
  refine lv_iload_n hx hb dL_law_1257 rfl (lv_at hl 0 rfl) ?_
  refine lv_iconst (v := 3) hx hb dL_law_1258 (by decide) ?_
  refine lv_iadd hx hb dL_law_1259 ?_
  refine z_topi (y := 3) (by decide +kernel) ?_
  refine va_sld hx hb hXs hbl hbA hS (z_in (a := 3) (by decide) (by decide) (by decide)) dL_law_1260 ?_
  refine z_topi (y := xs 3) rfl ?_
  refine lv_aload_n hx hb dL_law_1261 rfl (lv_at hl 3 rfl) ?_
  refine lv_iload_n hx hb dL_law_1262 rfl (lv_at hl 0 rfl) ?_
  refine lv_iconst (v := 4) hx hb dL_law_1263 (by decide) ?_
  refine lv_iadd hx hb dL_law_1264 ?_
  refine z_topi (y := 4) (by decide +kernel) ?_
  refine va_sld hx hb hXs hbl hbA hS (z_in (a := 4) (by decide) (by decide) (by decide)) dL_law_1265 ?_
  refine z_topi (y := xs 4) rfl ?_
  refine lv_aload_n hx hb dL_law_1266 rfl (lv_at hl 3 rfl) ?_
  refine lv_iload_n hx hb dL_law_1267 rfl (lv_at hl 0 rfl) ?_
  refine lv_iconst (v := 5) hx hb dL_law_1268 (by decide) ?_
  refine lv_iadd hx hb dL_law_1269 ?_
  refine z_topi (y := 5) (by decide +kernel) ?_
  refine va_sld hx hb hXs hbl hbA hS (z_in (a := 5) (by decide) (by decide) (by decide)) dL_law_1270 ?_
  refine z_topi (y := xs 5) rfl ?_
  refine z_fini (w' := fun (_ : Unit) => [(am 0, .inr (9, mf0 am)), (am 7, .inl (cI, 5, .inl (fun _ => 0)))]) (va_runV (As := [.int (xs 1), .int (xs 2), .int (xs 3), .int (xs 4), .int (xs 5)]) (rest := []) ⟨hx, hb, hml, hown, hts⟩ (c_X8_worlds_107 l dC dI cB cI cJ cZ cP cQ ad H.size (xs 1) (xs 2) (xs 3) (xs 4) (xs 5)) (cwV 5 hts gT_X8_worlds rfl rfl rfl (by decide +kernel) ⟨Nat.le_of_ble_eq_true rfl, Nat.le_of_ble_eq_true rfl⟩) (z_pV (ci := 8) hK hP hD zX_nil [0, 3] (by decide) rfl rfl 0 rfl) rfl rfl hl.1 rfl (lv_room (Nat.le_of_ble_eq_true rfl)) dL_law_1271 ⟨Nat.le_of_ble_eq_true rfl, Nat.le_of_ble_eq_true rfl⟩) hP hD hS hA [0, 3] [53, 60] [0, 1] rfl rfl (by decide) (by decide) (fun _ => rfl) (by decide) (fun r1 u2 H locs hp3 hP hD hS => ?_)
  have hP : va_P (dC, dI) vwCl [(am 0, .inr (9, mf0 am)), (am 7, .inl (cI, 5, .inl (fun _ => 0)))] H := hP
  have hD : va_D (fun q : Nat => s.heap.size ≤ q) [(am 0, .inr (9, mf0 am)), (am 7, .inl (cI, 5, .inl (fun _ => 0)))] := hD
  refine W.widen (k := 90) (n := 14039) (by decide) (by decide) ?_
  refine lv_aload_n hx hb dL_law_1274 rfl (lv_at hl 1 rfl) ?_
  refine lv_aload_n hx hb dL_law_1275 rfl (lv_at hl 3 rfl) ?_
  refine lv_iload_n hx hb dL_law_1276 rfl (lv_at hl 0 rfl) ?_
  refine lv_iconst (v := 1) hx hb dL_law_1277 (by decide) ?_
  refine lv_iadd hx hb dL_law_1278 ?_
  refine z_topi (y := 1) (by decide +kernel) ?_
  refine va_sld hx hb hXs hbl hbA hS (z_in (a := 1) (by decide) (by decide) (by decide)) dL_law_1279 ?_
  refine z_topi (y := xs 1) rfl ?_
  refine lv_aload_n hx hb dL_law_1280 rfl (lv_at hl 3 rfl) ?_
  refine lv_iload_n hx hb dL_law_1281 rfl (lv_at hl 0 rfl) ?_
  refine lv_iconst (v := 2) hx hb dL_law_1282 (by decide) ?_
  refine lv_iadd hx hb dL_law_1283 ?_
  refine z_topi (y := 2) (by decide +kernel) ?_
  refine va_sld hx hb hXs hbl hbA hS (z_in (a := 2) (by decide) (by decide) (by decide)) dL_law_1284 ?_
  refine z_topi (y := xs 2) rfl ?_
  refine lv_aload_n hx hb dL_law_1285 rfl (lv_at hl 3 rfl) ?_
  refine lv_iload_n hx hb dL_law_1286 rfl (lv_at hl 0 rfl) ?_
  refine lv_iconst (v := 3) hx hb dL_law_1287 (by decide) ?_
  refine lv_iadd hx hb dL_law_1288 ?_
  refine z_topi (y := 3) (by decide +kernel) ?_
  refine va_sld hx hb hXs hbl hbA hS (z_in (a := 3) (by decide) (by decide) (by decide)) dL_law_1289 ?_
  refine z_topi (y := xs 3) rfl ?_
  refine lv_aload_n hx hb dL_law_1290 rfl (lv_at hl 3 rfl) ?_
  refine lv_iload_n hx hb dL_law_1291 rfl (lv_at hl 0 rfl) ?_
  refine lv_iconst (v := 4) hx hb dL_law_1292 (by decide) ?_
  refine lv_iadd hx hb dL_law_1293 ?_
  refine z_topi (y := 4) (by decide +kernel) ?_
  refine va_sld hx hb hXs hbl hbA hS (z_in (a := 4) (by decide) (by decide) (by decide)) dL_law_1294 ?_
  refine z_topi (y := xs 4) rfl ?_
  refine lv_aload_n hx hb dL_law_1295 rfl (lv_at hl 3 rfl) ?_
  refine lv_iload_n hx hb dL_law_1296 rfl (lv_at hl 0 rfl) ?_
  refine lv_iconst (v := 5) hx hb dL_law_1297 (by decide) ?_
  refine lv_iadd hx hb dL_law_1298 ?_
  refine z_topi (y := 5) (by decide +kernel) ?_
  refine va_sld hx hb hXs hbl hbA hS (z_in (a := 5) (by decide) (by decide) (by decide)) dL_law_1299 ?_
  refine z_topi (y := xs 5) rfl ?_
  refine z_fini (w' := fun (_ : Unit) => []) (va_runV (As := [.int (xs 1), .int (xs 2), .int (xs 3), .int (xs 4), .int (xs 5)]) (rest := [.int r1]) ⟨hx, hb, hml, hown, hts⟩ (c_X9_worlds_246 l dC dI cB cI cJ cZ cP cQ am H.size (xs 1) (xs 2) (xs 3) (xs 4) (xs 5)) (cwV 5 hts gT_X9_worlds rfl rfl rfl (by decide +kernel) ⟨Nat.le_of_ble_eq_true rfl, Nat.le_of_ble_eq_true rfl⟩) (z_pV (ci := 9) hK hP hD zX_nil [0, 1] (by decide) rfl rfl 0 rfl) rfl rfl hl.1 rfl (lv_room (Nat.le_of_ble_eq_true rfl)) dL_law_1300 ⟨Nat.le_of_ble_eq_true rfl, Nat.le_of_ble_eq_true rfl⟩) hP hD hS hA [0, 1] [] [] rfl rfl (by decide) (by decide) (fun _ => rfl) (by decide) (fun r4 u5 H locs hp6 hP hD hS => ?_)
  have hP : va_P (dC, dI) vwCl [] H := hP
  have hD : va_D (fun q : Nat => s.heap.size ≤ q) [] := hD
  refine W.widen (k := 90) (n := 14039) (by decide) (by decide) ?_
  have heq : r1 = r4 := by
    rcases hp3 with ⟨rfl, a0⟩ | ⟨rfl, a0, a1⟩ | ⟨rfl, a0, a1, a2⟩ | ⟨rfl, a0, a1, a2, a3⟩ | ⟨rfl, a0, a1, a2, a3, a4⟩ | ⟨rfl, a0, a1, a2, a3, a4, a5⟩ | ⟨rfl, a0, a1, a2, a3, a4, a5, a6⟩ | ⟨rfl, a0, a1, a2, a3, a4, a5, a6, a7⟩ | ⟨rfl, a0, a1, a2, a3, a4, a5, a6, a7, a8⟩ | ⟨rfl, a0, a1, a2, a3, a4, a5, a6, a7, a8, a9⟩ | ⟨rfl, a0, a1, a2, a3, a4, a5, a6, a7, a8, a9⟩ <;> (rcases hp6 with ⟨rfl, b0⟩ | ⟨rfl, b0, b1⟩ | ⟨rfl, b0, b1, b2⟩ | ⟨rfl, b0, b1, b2, b3⟩ | ⟨rfl, b0, b1, b2, b3, b4⟩ | ⟨rfl, b0, b1, b2, b3, b4, b5⟩ | ⟨rfl, b0, b1, b2, b3, b4, b5, b6⟩ | ⟨rfl, b0, b1, b2, b3, b4, b5, b6, b7⟩ | ⟨rfl, b0, b1, b2, b3, b4, b5, b6, b7, b8⟩ | ⟨rfl, b0, b1, b2, b3, b4, b5, b6, b7, b8, b9⟩ | ⟨rfl, b0, b1, b2, b3, b4, b5, b6, b7, b8, b9⟩ <;> first | rfl | (exfalso; omega))
  refine lv_icmp_eq (tgt := 1625) hx hb dL_law_1303 (by decide) (fun _ => ?_) (fun c => absurd heq c)
  exact law_tail C0 hS (by decide) (by decide) (lv_sub hl [0, 1, 2, 3] rfl)
set_option maxHeartbeats 4000000 in
set_option maxRecDepth 100000 in
theorem law_case34 {p : Program} {e : Env} {s : State} {m : MethodId} {below : List Frame} {meth : Method} {c : Code} {b : Nat} {xs : Nat → Int32} (l : Launch) (dC : Nat → ClassId) (dI : Nat → Nat → Nat) (cB cI cJ cZ cP cQ : ClassId) (ad am : Nat → Nat) (C0 : lw_At p s m meth c b 6 xs) (H : Heap) (locs : List Loc) (hK : va_K (dC, dI) vwCl (zT cB cI cJ cZ cP cQ) s) (hP : va_P (dC, dI) vwCl (zxw cB cI cJ cZ cP cQ ad ++ zmw cB cI cJ cZ cP cQ am) H) (hD : va_D (fun q : Nat => s.heap.size ≤ q) (zxw cB cI cJ cZ cP cQ ad ++ zmw cB cI cJ cZ cP cQ am)) (hS : va_S (fun q : Nat => s.heap.size ≤ q) s.heap H locs) (hX : zX [(RX1, 44, yX8_thousandths, "MonthPush"), (RX2, 18, yX5_init, "MonthPush"), (RX8, 380, yX2_init, "MonthPush")] [] s) (ls : Array Slot) (hl : lv_has ls 4 [(3, .int 0), (2, .ref (am 0)), (1, .ref (ad 0)), (0, .ref b)]) : W p l e room_1 s m #[Value.ref b] below meth c H locs 90 14039 (lw_Z below #[Value.ref b] s) (F0 m 1308 ls []) := by
  obtain ⟨hx, hb, hr, hml, hown, hts, hXs, hbl, hlocks, hgv⟩ := id C0
  have hown : s.vm.findClass RL = some m.cls := hown
  have hA : ∀ q : Nat, s.heap.size ≤ q → (fun q : Nat => s.heap.size ≤ q) q := fun _ h => h
  have hbA : ¬ (fun q : Nat => s.heap.size ≤ q) b := Nat.not_le.mpr hbl
  refine lv_aload_n hx hb dL_law_1308 rfl (lv_at hl 2 rfl) ?_
  refine lv_aload_n hx hb dL_law_1309 rfl (lv_at hl 3 rfl) ?_
  refine lv_iload_n hx hb dL_law_1310 rfl (lv_at hl 0 rfl) ?_
  refine lv_iconst (v := 1) hx hb dL_law_1311 (by decide) ?_
  refine lv_iadd hx hb dL_law_1312 ?_
  refine z_topi (y := 1) (by decide +kernel) ?_
  refine va_sld hx hb hXs hbl hbA hS (z_in (a := 1) (by decide) (by decide) (by decide)) dL_law_1313 ?_
  refine z_topi (y := xs 1) rfl ?_
  refine z_fini (w' := fun (_ : Unit) => [(am 0, .inr (9, mf0 am)), (am 7, .inl (cI, 5, .inl (fun _ => 0)))]) (va_runV (As := [.int (xs 1)]) (rest := []) ⟨hx, hb, hml, hown, hts⟩ (c_X8_only_108 l dC dI cB cI cJ cZ cP cQ ad H.size (xs 1)) (cwV 1 hts gT_X8_only rfl rfl rfl (by decide +kernel) ⟨Nat.le_of_ble_eq_true rfl, Nat.le_of_ble_eq_true rfl⟩) (z_pV (ci := 8) hK hP hD zX_nil [0, 3] (by decide) rfl rfl 0 rfl) rfl rfl hl.1 rfl (lv_room (Nat.le_of_ble_eq_true rfl)) dL_law_1314 ⟨Nat.le_of_ble_eq_true rfl, Nat.le_of_ble_eq_true rfl⟩) hP hD hS hA [0, 3] [53, 60] [0, 1] rfl rfl (by decide) (by decide) (fun _ => rfl) (by decide) (fun r1 u2 H locs hp3 hP hD hS => ?_)
  have hP : va_P (dC, dI) vwCl [(am 0, .inr (9, mf0 am)), (am 7, .inl (cI, 5, .inl (fun _ => 0)))] H := hP
  have hD : va_D (fun q : Nat => s.heap.size ≤ q) [(am 0, .inr (9, mf0 am)), (am 7, .inl (cI, 5, .inl (fun _ => 0)))] := hD
  refine W.widen (k := 90) (n := 14039) (by decide) (by decide) ?_
  refine lv_aload_n hx hb dL_law_1317 rfl (lv_at hl 1 rfl) ?_
  refine lv_aload_n hx hb dL_law_1318 rfl (lv_at hl 3 rfl) ?_
  refine lv_iload_n hx hb dL_law_1319 rfl (lv_at hl 0 rfl) ?_
  refine lv_iconst (v := 1) hx hb dL_law_1320 (by decide) ?_
  refine lv_iadd hx hb dL_law_1321 ?_
  refine z_topi (y := 1) (by decide +kernel) ?_
  refine va_sld hx hb hXs hbl hbA hS (z_in (a := 1) (by decide) (by decide) (by decide)) dL_law_1322 ?_
  refine z_topi (y := xs 1) rfl ?_
  refine z_fini (w' := fun (_ : Unit) => []) (va_runV (As := [.int (xs 1)]) (rest := [.int r1]) ⟨hx, hb, hml, hown, hts⟩ (c_X9_only_247 l dC dI cB cI cJ cZ cP cQ am H.size (xs 1)) (cwV 1 hts gT_X9_only rfl rfl rfl (by decide +kernel) ⟨Nat.le_of_ble_eq_true rfl, Nat.le_of_ble_eq_true rfl⟩) (z_pV (ci := 9) hK hP hD zX_nil [0, 1] (by decide) rfl rfl 0 rfl) rfl rfl hl.1 rfl (lv_room (Nat.le_of_ble_eq_true rfl)) dL_law_1323 ⟨Nat.le_of_ble_eq_true rfl, Nat.le_of_ble_eq_true rfl⟩) hP hD hS hA [0, 1] [] [] rfl rfl (by decide) (by decide) (fun _ => rfl) (by decide) (fun r4 u5 H locs hp6 hP hD hS => ?_)
  have hP : va_P (dC, dI) vwCl [] H := hP
  have hD : va_D (fun q : Nat => s.heap.size ≤ q) [] := hD
  refine W.widen (k := 90) (n := 14039) (by decide) (by decide) ?_
  have heq : r1 = r4 := by
    rcases hp3 with ⟨rfl, a0⟩ | ⟨rfl, a0⟩ <;> (rcases hp6 with ⟨rfl, b0⟩ | ⟨rfl, b0⟩ <;> first | rfl | (exfalso; omega))
  refine lv_icmp_eq (tgt := 1625) hx hb dL_law_1326 (by decide) (fun _ => ?_) (fun c => absurd heq c)
  exact law_tail C0 hS (by decide) (by decide) (lv_sub hl [0, 1, 2, 3] rfl)
set_option maxHeartbeats 4000000 in
set_option maxRecDepth 100000 in
theorem law_case35 {p : Program} {e : Env} {s : State} {m : MethodId} {below : List Frame} {meth : Method} {c : Code} {b : Nat} {xs : Nat → Int32} (l : Launch) (dC : Nat → ClassId) (dI : Nat → Nat → Nat) (cB cI cJ cZ cP cQ : ClassId) (ad am : Nat → Nat) (C0 : lw_At p s m meth c b 6 xs) (H : Heap) (locs : List Loc) (hK : va_K (dC, dI) vwCl (zT cB cI cJ cZ cP cQ) s) (hP : va_P (dC, dI) vwCl (zxw cB cI cJ cZ cP cQ ad ++ zmw cB cI cJ cZ cP cQ am) H) (hD : va_D (fun q : Nat => s.heap.size ≤ q) (zxw cB cI cJ cZ cP cQ ad ++ zmw cB cI cJ cZ cP cQ am)) (hS : va_S (fun q : Nat => s.heap.size ≤ q) s.heap H locs) (hX : zX [(RX1, 44, yX8_thousandths, "MonthPush"), (RX2, 18, yX5_init, "MonthPush"), (RX8, 380, yX2_init, "MonthPush")] [] s) (ls : Array Slot) (hl : lv_has ls 4 [(3, .int 0), (2, .ref (am 0)), (1, .ref (ad 0)), (0, .ref b)]) : W p l e room_1 s m #[Value.ref b] below meth c H locs 90 14039 (lw_Z below #[Value.ref b] s) (F0 m 1331 ls []) := by
  obtain ⟨hx, hb, hr, hml, hown, hts, hXs, hbl, hlocks, hgv⟩ := id C0
  have hown : s.vm.findClass RL = some m.cls := hown
  have hA : ∀ q : Nat, s.heap.size ≤ q → (fun q : Nat => s.heap.size ≤ q) q := fun _ h => h
  have hbA : ¬ (fun q : Nat => s.heap.size ≤ q) b := Nat.not_le.mpr hbl
  refine lv_aload_n hx hb dL_law_1331 rfl (lv_at hl 2 rfl) ?_
  refine lv_aload_n hx hb dL_law_1332 rfl (lv_at hl 3 rfl) ?_
  refine lv_iload_n hx hb dL_law_1333 rfl (lv_at hl 0 rfl) ?_
  refine lv_iconst (v := 1) hx hb dL_law_1334 (by decide) ?_
  refine lv_iadd hx hb dL_law_1335 ?_
  refine z_topi (y := 1) (by decide +kernel) ?_
  refine va_sld hx hb hXs hbl hbA hS (z_in (a := 1) (by decide) (by decide) (by decide)) dL_law_1336 ?_
  refine z_topi (y := xs 1) rfl ?_
  refine z_fini (w' := fun (_ : Unit) => [(am 0, .inr (9, mf0 am)), (am 1, .inl (cI, 4, .inl (fun _ => (-1))))]) (va_runV (As := [.int (xs 1)]) (rest := []) ⟨hx, hb, hml, hown, hts⟩ (c_X8_judge_114 l dC dI cB cI cJ cZ cP cQ ad H.size (xs 1)) (cwV 1 hts gT_X8_judge rfl rfl rfl (by decide +kernel) ⟨Nat.le_of_ble_eq_true rfl, Nat.le_of_ble_eq_true rfl⟩) (z_pV (ci := 8) hK hP hD zX_nil [0, 44, 45, 47, 49, 51] (by decide) rfl rfl 0 rfl) rfl rfl hl.1 rfl (lv_room (Nat.le_of_ble_eq_true rfl)) dL_law_1337 ⟨Nat.le_of_ble_eq_true rfl, Nat.le_of_ble_eq_true rfl⟩) hP hD hS hA [0, 44, 45, 47, 49, 51] [53, 54] [0, 1] rfl rfl (by decide) (by decide) (fun _ => rfl) (by decide) (fun r1 u2 H locs hp3 hP hD hS => ?_)
  have hP : va_P (dC, dI) vwCl [(am 0, .inr (9, mf0 am)), (am 1, .inl (cI, 4, .inl (fun _ => (-1))))] H := hP
  have hD : va_D (fun q : Nat => s.heap.size ≤ q) [(am 0, .inr (9, mf0 am)), (am 1, .inl (cI, 4, .inl (fun _ => (-1))))] := hD
  refine W.widen (k := 90) (n := 14039) (by decide) (by decide) ?_
  refine lv_aload_n hx hb dL_law_1340 rfl (lv_at hl 1 rfl) ?_
  refine lv_aload_n hx hb dL_law_1341 rfl (lv_at hl 3 rfl) ?_
  refine lv_iload_n hx hb dL_law_1342 rfl (lv_at hl 0 rfl) ?_
  refine lv_iconst (v := 1) hx hb dL_law_1343 (by decide) ?_
  refine lv_iadd hx hb dL_law_1344 ?_
  refine z_topi (y := 1) (by decide +kernel) ?_
  refine va_sld hx hb hXs hbl hbA hS (z_in (a := 1) (by decide) (by decide) (by decide)) dL_law_1345 ?_
  refine z_topi (y := xs 1) rfl ?_
  refine z_fini (w' := fun (_ : Unit) => []) (va_runV (As := [.int (xs 1)]) (rest := [.int r1]) ⟨hx, hb, hml, hown, hts⟩ (c_X9_judge_248 l dC dI cB cI cJ cZ cP cQ am H.size (xs 1)) (cwV 1 hts gT_X9_judge rfl rfl rfl (by decide +kernel) ⟨Nat.le_of_ble_eq_true rfl, Nat.le_of_ble_eq_true rfl⟩) (z_pV (ci := 9) hK hP hD zX_nil [0, 1] (by decide) rfl rfl 0 rfl) rfl rfl hl.1 rfl (lv_room (Nat.le_of_ble_eq_true rfl)) dL_law_1346 ⟨Nat.le_of_ble_eq_true rfl, Nat.le_of_ble_eq_true rfl⟩) hP hD hS hA [0, 1] [] [] rfl rfl (by decide) (by decide) (fun _ => rfl) (by decide) (fun r4 u5 H locs hp6 hP hD hS => ?_)
  have hP : va_P (dC, dI) vwCl [] H := hP
  have hD : va_D (fun q : Nat => s.heap.size ≤ q) [] := hD
  refine W.widen (k := 90) (n := 14039) (by decide) (by decide) ?_
  have heq : r1 = r4 := by
    rcases hp3 with ⟨rfl, a0⟩ | ⟨rfl, a0, a1⟩ | ⟨rfl, a0, a1⟩ <;> (rcases hp6 with ⟨rfl, b0⟩ | ⟨rfl, b0, b1⟩ | ⟨rfl, b0, b1⟩ <;> first | rfl | (exfalso; omega))
  refine lv_icmp_eq (tgt := 1625) hx hb dL_law_1349 (by decide) (fun _ => ?_) (fun c => absurd heq c)
  exact law_tail C0 hS (by decide) (by decide) (lv_sub hl [0, 1, 2, 3] rfl)
set_option maxHeartbeats 4000000 in
set_option maxRecDepth 100000 in
theorem law_case36 {p : Program} {e : Env} {s : State} {m : MethodId} {below : List Frame} {meth : Method} {c : Code} {b : Nat} {xs : Nat → Int32} (l : Launch) (dC : Nat → ClassId) (dI : Nat → Nat → Nat) (cB cI cJ cZ cP cQ : ClassId) (ad am : Nat → Nat) (C0 : lw_At p s m meth c b 6 xs) (H : Heap) (locs : List Loc) (hK : va_K (dC, dI) vwCl (zT cB cI cJ cZ cP cQ) s) (hP : va_P (dC, dI) vwCl (zxw cB cI cJ cZ cP cQ ad ++ zmw cB cI cJ cZ cP cQ am) H) (hD : va_D (fun q : Nat => s.heap.size ≤ q) (zxw cB cI cJ cZ cP cQ ad ++ zmw cB cI cJ cZ cP cQ am)) (hS : va_S (fun q : Nat => s.heap.size ≤ q) s.heap H locs) (hX : zX [(RX1, 44, yX8_thousandths, "MonthPush"), (RX2, 18, yX5_init, "MonthPush"), (RX8, 380, yX2_init, "MonthPush")] [] s) (ls : Array Slot) (hl : lv_has ls 4 [(3, .int 0), (2, .ref (am 0)), (1, .ref (ad 0)), (0, .ref b)]) : W p l e room_1 s m #[Value.ref b] below meth c H locs 90 14039 (lw_Z below #[Value.ref b] s) (F0 m 1354 ls []) := by
  obtain ⟨hx, hb, hr, hml, hown, hts, hXs, hbl, hlocks, hgv⟩ := id C0
  have hown : s.vm.findClass RL = some m.cls := hown
  have hA : ∀ q : Nat, s.heap.size ≤ q → (fun q : Nat => s.heap.size ≤ q) q := fun _ h => h
  have hbA : ¬ (fun q : Nat => s.heap.size ≤ q) b := Nat.not_le.mpr hbl
  refine lv_aload_n hx hb dL_law_1354 rfl (lv_at hl 2 rfl) ?_
  refine lv_aload_n hx hb dL_law_1355 rfl (lv_at hl 3 rfl) ?_
  refine lv_iload_n hx hb dL_law_1356 rfl (lv_at hl 0 rfl) ?_
  refine lv_iconst (v := 1) hx hb dL_law_1357 (by decide) ?_
  refine lv_iadd hx hb dL_law_1358 ?_
  refine z_topi (y := 1) (by decide +kernel) ?_
  refine va_sld hx hb hXs hbl hbA hS (z_in (a := 1) (by decide) (by decide) (by decide)) dL_law_1359 ?_
  refine z_topi (y := xs 1) rfl ?_
  refine z_fini (w' := fun (_ : Unit) => [(am 0, .inr (9, mf0 am)), (am 1, .inl (cI, 4, .inl (fun _ => (-1))))]) (va_runV (As := [.int (xs 1)]) (rest := []) ⟨hx, hb, hml, hown, hts⟩ (c_X8_sheets_115 l dC dI cB cI cJ cZ cP cQ ad H.size (xs 1)) (cwV 1 hts gT_X8_sheets rfl rfl rfl (by decide +kernel) ⟨Nat.le_of_ble_eq_true rfl, Nat.le_of_ble_eq_true rfl⟩) (z_pV (ci := 8) hK hP hD zX_nil [0, 44, 45, 47, 49, 51] (by decide) rfl rfl 0 rfl) rfl rfl hl.1 rfl (lv_room (Nat.le_of_ble_eq_true rfl)) dL_law_1360 ⟨Nat.le_of_ble_eq_true rfl, Nat.le_of_ble_eq_true rfl⟩) hP hD hS hA [0, 44, 45, 47, 49, 51] [53, 54] [0, 1] rfl rfl (by decide) (by decide) (fun _ => rfl) (by decide) (fun r1 u2 H locs hp3 hP hD hS => ?_)
  have hP : va_P (dC, dI) vwCl [(am 0, .inr (9, mf0 am)), (am 1, .inl (cI, 4, .inl (fun _ => (-1))))] H := hP
  have hD : va_D (fun q : Nat => s.heap.size ≤ q) [(am 0, .inr (9, mf0 am)), (am 1, .inl (cI, 4, .inl (fun _ => (-1))))] := hD
  refine W.widen (k := 90) (n := 14039) (by decide) (by decide) ?_
  refine lv_aload_n hx hb dL_law_1363 rfl (lv_at hl 1 rfl) ?_
  refine lv_aload_n hx hb dL_law_1364 rfl (lv_at hl 3 rfl) ?_
  refine lv_iload_n hx hb dL_law_1365 rfl (lv_at hl 0 rfl) ?_
  refine lv_iconst (v := 1) hx hb dL_law_1366 (by decide) ?_
  refine lv_iadd hx hb dL_law_1367 ?_
  refine z_topi (y := 1) (by decide +kernel) ?_
  refine va_sld hx hb hXs hbl hbA hS (z_in (a := 1) (by decide) (by decide) (by decide)) dL_law_1368 ?_
  refine z_topi (y := xs 1) rfl ?_
  refine z_fini (w' := fun (_ : Unit) => []) (va_runV (As := [.int (xs 1)]) (rest := [.int r1]) ⟨hx, hb, hml, hown, hts⟩ (c_X9_sheets_177 l dC dI cB cI cJ cZ cP cQ am H.size (xs 1)) (cwV 1 hts gT_X9_sheets rfl rfl rfl (by decide +kernel) ⟨Nat.le_of_ble_eq_true rfl, Nat.le_of_ble_eq_true rfl⟩) (z_pV (ci := 9) hK hP hD zX_nil [0, 1] (by decide) rfl rfl 0 rfl) rfl rfl hl.1 rfl (lv_room (Nat.le_of_ble_eq_true rfl)) dL_law_1369 ⟨Nat.le_of_ble_eq_true rfl, Nat.le_of_ble_eq_true rfl⟩) hP hD hS hA [0, 1] [] [] rfl rfl (by decide) (by decide) (fun _ => rfl) (by decide) (fun r4 u5 H locs hp6 hP hD hS => ?_)
  have hP : va_P (dC, dI) vwCl [] H := hP
  have hD : va_D (fun q : Nat => s.heap.size ≤ q) [] := hD
  refine W.widen (k := 90) (n := 14039) (by decide) (by decide) ?_
  have heq : r1 = r4 := by
    rcases hp3 with ⟨rfl, a0⟩ | ⟨rfl, a0, a1⟩ | ⟨rfl, a0, a1⟩ <;> (rcases hp6 with ⟨rfl, b0⟩ | ⟨rfl, b0, b1⟩ | ⟨rfl, b0, b1⟩ <;> first | rfl | (exfalso; omega))
  refine lv_icmp_eq (tgt := 1625) hx hb dL_law_1372 (by decide) (fun _ => ?_) (fun c => absurd heq c)
  exact law_tail C0 hS (by decide) (by decide) (lv_sub hl [0, 1, 2, 3] rfl)
set_option maxHeartbeats 4000000 in
set_option maxRecDepth 100000 in
theorem law_case37 {p : Program} {e : Env} {s : State} {m : MethodId} {below : List Frame} {meth : Method} {c : Code} {b : Nat} {xs : Nat → Int32} (l : Launch) (dC : Nat → ClassId) (dI : Nat → Nat → Nat) (cB cI cJ cZ cP cQ : ClassId) (ad am : Nat → Nat) (C0 : lw_At p s m meth c b 6 xs) (H : Heap) (locs : List Loc) (hK : va_K (dC, dI) vwCl (zT cB cI cJ cZ cP cQ) s) (hP : va_P (dC, dI) vwCl (zxw cB cI cJ cZ cP cQ ad ++ zmw cB cI cJ cZ cP cQ am) H) (hD : va_D (fun q : Nat => s.heap.size ≤ q) (zxw cB cI cJ cZ cP cQ ad ++ zmw cB cI cJ cZ cP cQ am)) (hS : va_S (fun q : Nat => s.heap.size ≤ q) s.heap H locs) (hX : zX [(RX1, 44, yX8_thousandths, "MonthPush"), (RX2, 18, yX5_init, "MonthPush"), (RX8, 380, yX2_init, "MonthPush")] [] s) (ls : Array Slot) (hl : lv_has ls 4 [(3, .int 0), (2, .ref (am 0)), (1, .ref (ad 0)), (0, .ref b)]) : W p l e room_1 s m #[Value.ref b] below meth c H locs 90 14039 (lw_Z below #[Value.ref b] s) (F0 m 1377 ls []) := by
  obtain ⟨hx, hb, hr, hml, hown, hts, hXs, hbl, hlocks, hgv⟩ := id C0
  have hown : s.vm.findClass RL = some m.cls := hown
  have hA : ∀ q : Nat, s.heap.size ≤ q → (fun q : Nat => s.heap.size ≤ q) q := fun _ h => h
  have hbA : ¬ (fun q : Nat => s.heap.size ≤ q) b := Nat.not_le.mpr hbl
  refine lv_aload_n hx hb dL_law_1377 rfl (lv_at hl 2 rfl) ?_
  refine lv_aload_n hx hb dL_law_1378 rfl (lv_at hl 3 rfl) ?_
  refine lv_iload_n hx hb dL_law_1379 rfl (lv_at hl 0 rfl) ?_
  refine lv_iconst (v := 1) hx hb dL_law_1380 (by decide) ?_
  refine lv_iadd hx hb dL_law_1381 ?_
  refine z_topi (y := 1) (by decide +kernel) ?_
  refine va_sld hx hb hXs hbl hbA hS (z_in (a := 1) (by decide) (by decide) (by decide)) dL_law_1382 ?_
  refine z_topi (y := xs 1) rfl ?_
  refine z_fini (w' := fun (_ : Unit) => [(am 0, .inr (9, mf0 am)), (am 1, .inl (cI, 4, .inl (fun _ => (-1)))), (am 6, .inl (cI, 5, .inl (fun _ => 0))), (am 7, .inl (cI, 5, .inl (fun _ => 0))), (am 10, .inl (cI, 5, .inl (fun _ => 0))), (am 19, .inl (cI, 5, .inl (fun _ => 0))), (am 20, .inl (cI, 5, .inl (fun _ => 0))), (am 25, .inl (cI, 5, .inl (fun _ => 0)))]) (va_runV (As := [.int (xs 1)]) (rest := []) ⟨hx, hb, hml, hown, hts⟩ (c_X8_count_117 l dC dI cB cI cJ cZ cP cQ ad H.size (xs 1)) (cwV 1 hts gT_X8_count rfl rfl rfl (by decide +kernel) ⟨Nat.le_of_ble_eq_true rfl, Nat.le_of_ble_eq_true rfl⟩) (z_pV (ci := 8) hK hP hD zX_nil [0, 1, 3, 23, 44, 45, 47, 49, 51] (by decide) rfl rfl 0 rfl) rfl rfl hl.1 rfl (lv_room (Nat.le_of_ble_eq_true rfl)) dL_law_1383 ⟨Nat.le_of_ble_eq_true rfl, Nat.le_of_ble_eq_true rfl⟩) hP hD hS hA [0, 1, 3, 23, 44, 45, 47, 49, 51] [53, 54, 59, 60, 63, 72, 73, 78] [0, 1, 2, 3, 4, 5, 6, 7] rfl rfl (by decide) (by decide) (fun _ => rfl) (by decide) (fun r1 u2 H locs hp3 hP hD hS => ?_)
  have hP : va_P (dC, dI) vwCl [(am 0, .inr (9, mf0 am)), (am 1, .inl (cI, 4, .inl (fun _ => (-1)))), (am 6, .inl (cI, 5, .inl (fun _ => 0))), (am 7, .inl (cI, 5, .inl (fun _ => 0))), (am 10, .inl (cI, 5, .inl (fun _ => 0))), (am 19, .inl (cI, 5, .inl (fun _ => 0))), (am 20, .inl (cI, 5, .inl (fun _ => 0))), (am 25, .inl (cI, 5, .inl (fun _ => 0)))] H := hP
  have hD : va_D (fun q : Nat => s.heap.size ≤ q) [(am 0, .inr (9, mf0 am)), (am 1, .inl (cI, 4, .inl (fun _ => (-1)))), (am 6, .inl (cI, 5, .inl (fun _ => 0))), (am 7, .inl (cI, 5, .inl (fun _ => 0))), (am 10, .inl (cI, 5, .inl (fun _ => 0))), (am 19, .inl (cI, 5, .inl (fun _ => 0))), (am 20, .inl (cI, 5, .inl (fun _ => 0))), (am 25, .inl (cI, 5, .inl (fun _ => 0)))] := hD
  refine W.widen (k := 90) (n := 14039) (by decide) (by decide) ?_
  refine lv_aload_n hx hb dL_law_1386 rfl (lv_at hl 1 rfl) ?_
  refine lv_aload_n hx hb dL_law_1387 rfl (lv_at hl 3 rfl) ?_
  refine lv_iload_n hx hb dL_law_1388 rfl (lv_at hl 0 rfl) ?_
  refine lv_iconst (v := 1) hx hb dL_law_1389 (by decide) ?_
  refine lv_iadd hx hb dL_law_1390 ?_
  refine z_topi (y := 1) (by decide +kernel) ?_
  refine va_sld hx hb hXs hbl hbA hS (z_in (a := 1) (by decide) (by decide) (by decide)) dL_law_1391 ?_
  refine z_topi (y := xs 1) rfl ?_
  refine z_fini (w' := fun (_ : Unit) => []) (va_runV (As := [.int (xs 1)]) (rest := [.int r1]) ⟨hx, hb, hml, hown, hts⟩ (c_X9_count_249 l dC dI cB cI cJ cZ cP cQ am H.size (xs 1)) (cwV 1 hts gT_X9_count rfl rfl rfl (by decide +kernel) ⟨Nat.le_of_ble_eq_true rfl, Nat.le_of_ble_eq_true rfl⟩) (z_pV (ci := 9) hK hP hD zX_nil [0, 1, 2, 3, 4, 5, 6, 7] (by decide) rfl rfl 0 rfl) rfl rfl hl.1 rfl (lv_room (Nat.le_of_ble_eq_true rfl)) dL_law_1392 ⟨Nat.le_of_ble_eq_true rfl, Nat.le_of_ble_eq_true rfl⟩) hP hD hS hA [0, 1, 2, 3, 4, 5, 6, 7] [] [] rfl rfl (by decide) (by decide) (fun _ => rfl) (by decide) (fun r4 u5 H locs hp6 hP hD hS => ?_)
  have hP : va_P (dC, dI) vwCl [] H := hP
  have hD : va_D (fun q : Nat => s.heap.size ≤ q) [] := hD
  refine W.widen (k := 90) (n := 14039) (by decide) (by decide) ?_
  have heq : r1 = r4 := by
    rcases hp3 with ⟨rfl, a0⟩ | ⟨rfl, a0⟩ | ⟨rfl, a0⟩ | ⟨rfl, a0⟩ | ⟨rfl, a0⟩ | ⟨rfl, a0⟩ | ⟨rfl, a0⟩ | ⟨rfl, a0⟩ | ⟨rfl, a0⟩ <;> (rcases hp6 with ⟨rfl, b0⟩ | ⟨rfl, b0⟩ | ⟨rfl, b0⟩ | ⟨rfl, b0⟩ | ⟨rfl, b0⟩ | ⟨rfl, b0⟩ | ⟨rfl, b0⟩ | ⟨rfl, b0⟩ | ⟨rfl, b0⟩ <;> first | rfl | (exfalso; omega))
  refine lv_icmp_eq (tgt := 1625) hx hb dL_law_1395 (by decide) (fun _ => ?_) (fun c => absurd heq c)
  exact law_tail C0 hS (by decide) (by decide) (lv_sub hl [0, 1, 2, 3] rfl)
set_option maxHeartbeats 4000000 in
set_option maxRecDepth 100000 in
theorem law_case38 {p : Program} {e : Env} {s : State} {m : MethodId} {below : List Frame} {meth : Method} {c : Code} {b : Nat} {xs : Nat → Int32} (l : Launch) (dC : Nat → ClassId) (dI : Nat → Nat → Nat) (cB cI cJ cZ cP cQ : ClassId) (ad am : Nat → Nat) (C0 : lw_At p s m meth c b 6 xs) (H : Heap) (locs : List Loc) (hK : va_K (dC, dI) vwCl (zT cB cI cJ cZ cP cQ) s) (hP : va_P (dC, dI) vwCl (zxw cB cI cJ cZ cP cQ ad ++ zmw cB cI cJ cZ cP cQ am) H) (hD : va_D (fun q : Nat => s.heap.size ≤ q) (zxw cB cI cJ cZ cP cQ ad ++ zmw cB cI cJ cZ cP cQ am)) (hS : va_S (fun q : Nat => s.heap.size ≤ q) s.heap H locs) (hX : zX [(RX1, 44, yX8_thousandths, "MonthPush"), (RX2, 18, yX5_init, "MonthPush"), (RX8, 380, yX2_init, "MonthPush")] [] s) (ls : Array Slot) (hl : lv_has ls 4 [(3, .int 0), (2, .ref (am 0)), (1, .ref (ad 0)), (0, .ref b)]) : W p l e room_1 s m #[Value.ref b] below meth c H locs 90 14039 (lw_Z below #[Value.ref b] s) (F0 m 1400 ls []) := by
  obtain ⟨hx, hb, hr, hml, hown, hts, hXs, hbl, hlocks, hgv⟩ := id C0
  have hown : s.vm.findClass RL = some m.cls := hown
  have hA : ∀ q : Nat, s.heap.size ≤ q → (fun q : Nat => s.heap.size ≤ q) q := fun _ h => h
  have hbA : ¬ (fun q : Nat => s.heap.size ≤ q) b := Nat.not_le.mpr hbl
  refine lv_aload_n hx hb dL_law_1400 rfl (lv_at hl 2 rfl) ?_
  refine lv_aload_n hx hb dL_law_1401 rfl (lv_at hl 3 rfl) ?_
  refine lv_iload_n hx hb dL_law_1402 rfl (lv_at hl 0 rfl) ?_
  refine lv_iconst (v := 1) hx hb dL_law_1403 (by decide) ?_
  refine lv_iadd hx hb dL_law_1404 ?_
  refine z_topi (y := 1) (by decide +kernel) ?_
  refine va_sld hx hb hXs hbl hbA hS (z_in (a := 1) (by decide) (by decide) (by decide)) dL_law_1405 ?_
  refine z_topi (y := xs 1) rfl ?_
  refine z_fini (w' := fun (_ : Unit) => [(am 0, .inr (9, mf0 am)), (am 6, .inl (cI, 5, .inl (fun _ => 0))), (am 7, .inl (cI, 5, .inl (fun _ => 0))), (am 8, .inl (cI, 30, .inl (fun _ => 0))), (am 9, .inl (cI, 30, .inl (fun _ => 0))), (am 10, .inl (cI, 5, .inl (fun _ => 0))), (am 11, .inl (cI, 40, .inl (fun _ => 0))), (am 12, .inl (cI, 40, .inl (fun _ => 0))), (am 13, .inl (cI, 40, .inl (fun _ => 0))), (am 14, .inl (cI, 40, .inl (fun _ => 0))), (am 16, .inl (cI, 60, .inl (fun _ => 0))), (am 17, .inl (cZ, 5, .inl (fun _ => 0))), (am 19, .inl (cI, 5, .inl (fun _ => 0))), (am 20, .inl (cI, 5, .inl (fun _ => 0))), (am 21, .inl (cI, 5, .inl (fun _ => 0))), (am 23, .inl (cZ, 3, .inl (fun _ => 0))), (am 25, .inl (cI, 5, .inl (fun _ => 0)))]) (va_runV (As := [.int (xs 1)]) (rest := []) ⟨hx, hb, hml, hown, hts⟩ (c_X8_keep_125 l dC dI cB cI cJ cZ cP cQ ad H.size (xs 1)) (cwV 1 hts gT_X8_keep rfl rfl rfl (by decide +kernel) ⟨Nat.le_of_ble_eq_true rfl, Nat.le_of_ble_eq_true rfl⟩) (z_pV (ci := 8) hK hP hD (zX_sub hX (by decide +kernel) (by decide +kernel)) [0, 3, 4, 5, 6, 7, 8, 9, 10, 11, 12, 23, 24, 25, 26, 27, 28, 29, 43] (by decide) rfl rfl 0 rfl) rfl rfl hl.1 rfl (lv_room (Nat.le_of_ble_eq_true rfl)) dL_law_1406 ⟨Nat.le_of_ble_eq_true rfl, Nat.le_of_ble_eq_true rfl⟩) hP hD hS hA [0, 3, 4, 5, 6, 7, 8, 9, 10, 11, 12, 23, 24, 25, 26, 27, 28, 29, 43] [53, 59, 60, 61, 62, 63, 64, 65, 66, 67, 69, 70, 72, 73, 74, 76, 78] [0, 1, 2, 3, 4, 5, 6, 7, 8, 9, 10, 11, 12, 13, 14, 15, 16] rfl rfl (by decide) (by decide) (fun _ => rfl) (by decide) (fun r1 u2 H locs hp3 hP hD hS => ?_)
  have hP : va_P (dC, dI) vwCl [(am 0, .inr (9, mf0 am)), (am 6, .inl (cI, 5, .inl (fun _ => 0))), (am 7, .inl (cI, 5, .inl (fun _ => 0))), (am 8, .inl (cI, 30, .inl (fun _ => 0))), (am 9, .inl (cI, 30, .inl (fun _ => 0))), (am 10, .inl (cI, 5, .inl (fun _ => 0))), (am 11, .inl (cI, 40, .inl (fun _ => 0))), (am 12, .inl (cI, 40, .inl (fun _ => 0))), (am 13, .inl (cI, 40, .inl (fun _ => 0))), (am 14, .inl (cI, 40, .inl (fun _ => 0))), (am 16, .inl (cI, 60, .inl (fun _ => 0))), (am 17, .inl (cZ, 5, .inl (fun _ => 0))), (am 19, .inl (cI, 5, .inl (fun _ => 0))), (am 20, .inl (cI, 5, .inl (fun _ => 0))), (am 21, .inl (cI, 5, .inl (fun _ => 0))), (am 23, .inl (cZ, 3, .inl (fun _ => 0))), (am 25, .inl (cI, 5, .inl (fun _ => 0)))] H := hP
  have hD : va_D (fun q : Nat => s.heap.size ≤ q) [(am 0, .inr (9, mf0 am)), (am 6, .inl (cI, 5, .inl (fun _ => 0))), (am 7, .inl (cI, 5, .inl (fun _ => 0))), (am 8, .inl (cI, 30, .inl (fun _ => 0))), (am 9, .inl (cI, 30, .inl (fun _ => 0))), (am 10, .inl (cI, 5, .inl (fun _ => 0))), (am 11, .inl (cI, 40, .inl (fun _ => 0))), (am 12, .inl (cI, 40, .inl (fun _ => 0))), (am 13, .inl (cI, 40, .inl (fun _ => 0))), (am 14, .inl (cI, 40, .inl (fun _ => 0))), (am 16, .inl (cI, 60, .inl (fun _ => 0))), (am 17, .inl (cZ, 5, .inl (fun _ => 0))), (am 19, .inl (cI, 5, .inl (fun _ => 0))), (am 20, .inl (cI, 5, .inl (fun _ => 0))), (am 21, .inl (cI, 5, .inl (fun _ => 0))), (am 23, .inl (cZ, 3, .inl (fun _ => 0))), (am 25, .inl (cI, 5, .inl (fun _ => 0)))] := hD
  refine W.widen (k := 108) (n := 15561) (by decide) (by decide) ?_
  refine lv_aload_n hx hb dL_law_1409 rfl (lv_at hl 1 rfl) ?_
  refine lv_aload_n hx hb dL_law_1410 rfl (lv_at hl 3 rfl) ?_
  refine lv_iload_n hx hb dL_law_1411 rfl (lv_at hl 0 rfl) ?_
  refine lv_iconst (v := 1) hx hb dL_law_1412 (by decide) ?_
  refine lv_iadd hx hb dL_law_1413 ?_
  refine z_topi (y := 1) (by decide +kernel) ?_
  refine va_sld hx hb hXs hbl hbA hS (z_in (a := 1) (by decide) (by decide) (by decide)) dL_law_1414 ?_
  refine z_topi (y := xs 1) rfl ?_
  refine z_fini (w' := fun (_ : Unit) => []) (va_runV (As := [.int (xs 1)]) (rest := [.int r1]) ⟨hx, hb, hml, hown, hts⟩ (c_X9_keep_256 l dC dI cB cI cJ cZ cP cQ am H.size (xs 1)) (cwV 1 hts gT_X9_keep rfl rfl rfl (by decide +kernel) ⟨Nat.le_of_ble_eq_true rfl, Nat.le_of_ble_eq_true rfl⟩) (z_pV (ci := 9) hK hP hD zX_nil [0, 1, 2, 3, 4, 5, 6, 7, 8, 9, 10, 11, 12, 13, 14, 15, 16] (by decide) rfl rfl 0 rfl) rfl rfl hl.1 rfl (lv_room (Nat.le_of_ble_eq_true rfl)) dL_law_1415 ⟨Nat.le_of_ble_eq_true rfl, Nat.le_of_ble_eq_true rfl⟩) hP hD hS hA [0, 1, 2, 3, 4, 5, 6, 7, 8, 9, 10, 11, 12, 13, 14, 15, 16] [] [] rfl rfl (by decide) (by decide) (fun _ => rfl) (by decide) (fun r4 u5 H locs hp6 hP hD hS => ?_)
  have hP : va_P (dC, dI) vwCl [] H := hP
  have hD : va_D (fun q : Nat => s.heap.size ≤ q) [] := hD
  refine W.widen (k := 108) (n := 15561) (by decide) (by decide) ?_
  have heq : r1 = r4 := by
    rcases hp3 with ⟨rfl, a0⟩ | ⟨rfl, a0, a1⟩ | ⟨rfl, a0, a1⟩ <;> (rcases hp6 with ⟨rfl, b0⟩ | ⟨rfl, b0, b1⟩ | ⟨rfl, b0, b1⟩ <;> first | rfl | (exfalso; omega))
  refine lv_icmp_eq (tgt := 1625) hx hb dL_law_1418 (by decide) (fun _ => ?_) (fun c => absurd heq c)
  exact law_tail C0 hS (by decide) (by decide) (lv_sub hl [0, 1, 2, 3] rfl)
set_option maxHeartbeats 4000000 in
set_option maxRecDepth 100000 in
theorem law_case39 {p : Program} {e : Env} {s : State} {m : MethodId} {below : List Frame} {meth : Method} {c : Code} {b : Nat} {xs : Nat → Int32} (l : Launch) (dC : Nat → ClassId) (dI : Nat → Nat → Nat) (cB cI cJ cZ cP cQ : ClassId) (ad am : Nat → Nat) (C0 : lw_At p s m meth c b 6 xs) (H : Heap) (locs : List Loc) (hK : va_K (dC, dI) vwCl (zT cB cI cJ cZ cP cQ) s) (hP : va_P (dC, dI) vwCl (zxw cB cI cJ cZ cP cQ ad ++ zmw cB cI cJ cZ cP cQ am) H) (hD : va_D (fun q : Nat => s.heap.size ≤ q) (zxw cB cI cJ cZ cP cQ ad ++ zmw cB cI cJ cZ cP cQ am)) (hS : va_S (fun q : Nat => s.heap.size ≤ q) s.heap H locs) (hX : zX [(RX1, 44, yX8_thousandths, "MonthPush"), (RX2, 18, yX5_init, "MonthPush"), (RX8, 380, yX2_init, "MonthPush")] [] s) (ls : Array Slot) (hl : lv_has ls 4 [(3, .int 0), (2, .ref (am 0)), (1, .ref (ad 0)), (0, .ref b)]) : W p l e room_1 s m #[Value.ref b] below meth c H locs 90 14039 (lw_Z below #[Value.ref b] s) (F0 m 1423 ls []) := by
  obtain ⟨hx, hb, hr, hml, hown, hts, hXs, hbl, hlocks, hgv⟩ := id C0
  have hown : s.vm.findClass RL = some m.cls := hown
  have hA : ∀ q : Nat, s.heap.size ≤ q → (fun q : Nat => s.heap.size ≤ q) q := fun _ h => h
  have hbA : ¬ (fun q : Nat => s.heap.size ≤ q) b := Nat.not_le.mpr hbl
  refine lv_aload_n hx hb dL_law_1423 rfl (lv_at hl 2 rfl) ?_
  refine lv_aload_n hx hb dL_law_1424 rfl (lv_at hl 3 rfl) ?_
  refine lv_iload_n hx hb dL_law_1425 rfl (lv_at hl 0 rfl) ?_
  refine lv_iconst (v := 1) hx hb dL_law_1426 (by decide) ?_
  refine lv_iadd hx hb dL_law_1427 ?_
  refine z_topi (y := 1) (by decide +kernel) ?_
  refine va_sld hx hb hXs hbl hbA hS (z_in (a := 1) (by decide) (by decide) (by decide)) dL_law_1428 ?_
  refine z_topi (y := xs 1) rfl ?_
  refine z_fini (w' := fun (_ : Unit) => [(am 0, .inr (9, mf0 am)), (am 23, .inl (cZ, 3, .inl (fun _ => 0)))]) (va_runV (As := [.int (xs 1)]) (rest := []) ⟨hx, hb, hml, hown, hts⟩ (c_X8_back_132 l dC dI cB cI cJ cZ cP cQ ad H.size (xs 1)) (cwV 1 hts gT_X8_back rfl rfl rfl (by decide +kernel) ⟨Nat.le_of_ble_eq_true rfl, Nat.le_of_ble_eq_true rfl⟩) (z_pV (ci := 8) hK hP hD zX_nil [0, 43] (by decide) rfl rfl 0 rfl) rfl rfl hl.1 rfl (lv_room (Nat.le_of_ble_eq_true rfl)) dL_law_1429 ⟨Nat.le_of_ble_eq_true rfl, Nat.le_of_ble_eq_true rfl⟩) hP hD hS hA [0, 43] [53, 76] [0, 1] rfl rfl (by decide) (by decide) (fun _ => rfl) (by decide) (fun r1 u2 H locs hp3 hP hD hS => ?_)
  have hP : va_P (dC, dI) vwCl [(am 0, .inr (9, mf0 am)), (am 23, .inl (cZ, 3, .inl (fun _ => 0)))] H := hP
  have hD : va_D (fun q : Nat => s.heap.size ≤ q) [(am 0, .inr (9, mf0 am)), (am 23, .inl (cZ, 3, .inl (fun _ => 0)))] := hD
  refine W.widen (k := 90) (n := 14039) (by decide) (by decide) ?_
  refine lv_aload_n hx hb dL_law_1432 rfl (lv_at hl 1 rfl) ?_
  refine lv_aload_n hx hb dL_law_1433 rfl (lv_at hl 3 rfl) ?_
  refine lv_iload_n hx hb dL_law_1434 rfl (lv_at hl 0 rfl) ?_
  refine lv_iconst (v := 1) hx hb dL_law_1435 (by decide) ?_
  refine lv_iadd hx hb dL_law_1436 ?_
  refine z_topi (y := 1) (by decide +kernel) ?_
  refine va_sld hx hb hXs hbl hbA hS (z_in (a := 1) (by decide) (by decide) (by decide)) dL_law_1437 ?_
  refine z_topi (y := xs 1) rfl ?_
  refine z_fini (w' := fun (_ : Unit) => []) (va_runV (As := [.int (xs 1)]) (rest := [.int r1]) ⟨hx, hb, hml, hown, hts⟩ (c_X9_back_257 l dC dI cB cI cJ cZ cP cQ am H.size (xs 1)) (cwV 1 hts gT_X9_back rfl rfl rfl (by decide +kernel) ⟨Nat.le_of_ble_eq_true rfl, Nat.le_of_ble_eq_true rfl⟩) (z_pV (ci := 9) hK hP hD zX_nil [0, 1] (by decide) rfl rfl 0 rfl) rfl rfl hl.1 rfl (lv_room (Nat.le_of_ble_eq_true rfl)) dL_law_1438 ⟨Nat.le_of_ble_eq_true rfl, Nat.le_of_ble_eq_true rfl⟩) hP hD hS hA [0, 1] [] [] rfl rfl (by decide) (by decide) (fun _ => rfl) (by decide) (fun r4 u5 H locs hp6 hP hD hS => ?_)
  have hP : va_P (dC, dI) vwCl [] H := hP
  have hD : va_D (fun q : Nat => s.heap.size ≤ q) [] := hD
  refine W.widen (k := 90) (n := 14039) (by decide) (by decide) ?_
  have heq : r1 = r4 := by
    rcases hp3 with ⟨rfl, a0⟩ | ⟨rfl, a0, a1⟩ | ⟨rfl, a0, a1⟩ <;> (rcases hp6 with ⟨rfl, b0⟩ | ⟨rfl, b0, b1⟩ | ⟨rfl, b0, b1⟩ <;> first | rfl | (exfalso; omega))
  refine lv_icmp_eq (tgt := 1625) hx hb dL_law_1441 (by decide) (fun _ => ?_) (fun c => absurd heq c)
  exact law_tail C0 hS (by decide) (by decide) (lv_sub hl [0, 1, 2, 3] rfl)
set_option maxHeartbeats 4000000 in
set_option maxRecDepth 100000 in
theorem law_case40 {p : Program} {e : Env} {s : State} {m : MethodId} {below : List Frame} {meth : Method} {c : Code} {b : Nat} {xs : Nat → Int32} (l : Launch) (dC : Nat → ClassId) (dI : Nat → Nat → Nat) (cB cI cJ cZ cP cQ : ClassId) (ad am : Nat → Nat) (C0 : lw_At p s m meth c b 6 xs) (H : Heap) (locs : List Loc) (hK : va_K (dC, dI) vwCl (zT cB cI cJ cZ cP cQ) s) (hP : va_P (dC, dI) vwCl (zxw cB cI cJ cZ cP cQ ad ++ zmw cB cI cJ cZ cP cQ am) H) (hD : va_D (fun q : Nat => s.heap.size ≤ q) (zxw cB cI cJ cZ cP cQ ad ++ zmw cB cI cJ cZ cP cQ am)) (hS : va_S (fun q : Nat => s.heap.size ≤ q) s.heap H locs) (hX : zX [(RX1, 44, yX8_thousandths, "MonthPush"), (RX2, 18, yX5_init, "MonthPush"), (RX8, 380, yX2_init, "MonthPush")] [] s) (ls : Array Slot) (hl : lv_has ls 4 [(3, .int 0), (2, .ref (am 0)), (1, .ref (ad 0)), (0, .ref b)]) : W p l e room_1 s m #[Value.ref b] below meth c H locs 90 14039 (lw_Z below #[Value.ref b] s) (F0 m 1446 ls []) := by
  obtain ⟨hx, hb, hr, hml, hown, hts, hXs, hbl, hlocks, hgv⟩ := id C0
  have hown : s.vm.findClass RL = some m.cls := hown
  have hA : ∀ q : Nat, s.heap.size ≤ q → (fun q : Nat => s.heap.size ≤ q) q := fun _ h => h
  have hbA : ¬ (fun q : Nat => s.heap.size ≤ q) b := Nat.not_le.mpr hbl
  refine lv_aload_n hx hb dL_law_1446 rfl (lv_at hl 2 rfl) ?_
  refine lv_aload_n hx hb dL_law_1447 rfl (lv_at hl 3 rfl) ?_
  refine lv_iload_n hx hb dL_law_1448 rfl (lv_at hl 0 rfl) ?_
  refine lv_iconst (v := 1) hx hb dL_law_1449 (by decide) ?_
  refine lv_iadd hx hb dL_law_1450 ?_
  refine z_topi (y := 1) (by decide +kernel) ?_
  refine va_sld hx hb hXs hbl hbA hS (z_in (a := 1) (by decide) (by decide) (by decide)) dL_law_1451 ?_
  refine z_topi (y := xs 1) rfl ?_
  refine lv_aload_n hx hb dL_law_1452 rfl (lv_at hl 3 rfl) ?_
  refine lv_iload_n hx hb dL_law_1453 rfl (lv_at hl 0 rfl) ?_
  refine lv_iconst (v := 2) hx hb dL_law_1454 (by decide) ?_
  refine lv_iadd hx hb dL_law_1455 ?_
  refine z_topi (y := 2) (by decide +kernel) ?_
  refine va_sld hx hb hXs hbl hbA hS (z_in (a := 2) (by decide) (by decide) (by decide)) dL_law_1456 ?_
  refine z_topi (y := xs 2) rfl ?_
  refine lv_aload_n hx hb dL_law_1457 rfl (lv_at hl 3 rfl) ?_
  refine lv_iload_n hx hb dL_law_1458 rfl (lv_at hl 0 rfl) ?_
  refine lv_iconst (v := 3) hx hb dL_law_1459 (by decide) ?_
  refine lv_iadd hx hb dL_law_1460 ?_
  refine z_topi (y := 3) (by decide +kernel) ?_
  refine va_sld hx hb hXs hbl hbA hS (z_in (a := 3) (by decide) (by decide) (by decide)) dL_law_1461 ?_
  refine z_topi (y := xs 3) rfl ?_
  refine z_fini (w' := fun (_ : Unit) => [(am 0, .inr (9, mf0 am)), (am 1, .inl (cI, 4, .inl (fun _ => (-1)))), (am 2, .inl (cI, 4, .inl (fun _ => 0))), (am 3, .inl (cJ, 240, .inr (.inl (fun _ => 0))))]) (va_runV (As := [.int (xs 1), .int (xs 2), .int (xs 3)]) (rest := []) ⟨hx, hb, hml, hown, hts⟩ (c_X8_row_137 l dC dI cB cI cJ cZ cP cQ ad H.size (xs 1) (xs 2) (xs 3)) (cwV 3 hts gT_X8_row rfl rfl rfl (by decide +kernel) ⟨Nat.le_of_ble_eq_true rfl, Nat.le_of_ble_eq_true rfl⟩) (z_pV (ci := 8) hK hP hD zX_nil [0, 44, 45, 46, 47, 48, 49, 50, 51, 52] (by decide) rfl rfl 0 rfl) rfl rfl hl.1 rfl (lv_room (Nat.le_of_ble_eq_true rfl)) dL_law_1462 ⟨Nat.le_of_ble_eq_true rfl, Nat.le_of_ble_eq_true rfl⟩) hP hD hS hA [0, 44, 45, 46, 47, 48, 49, 50, 51, 52] [53, 54, 55, 56] [0, 1, 2, 3] rfl rfl (by decide) (by decide) (fun _ => rfl) (by decide) (fun r1 u2 H locs hp3 hP hD hS => ?_)
  have hP : va_P (dC, dI) vwCl [(am 0, .inr (9, mf0 am)), (am 1, .inl (cI, 4, .inl (fun _ => (-1)))), (am 2, .inl (cI, 4, .inl (fun _ => 0))), (am 3, .inl (cJ, 240, .inr (.inl (fun _ => 0))))] H := hP
  have hD : va_D (fun q : Nat => s.heap.size ≤ q) [(am 0, .inr (9, mf0 am)), (am 1, .inl (cI, 4, .inl (fun _ => (-1)))), (am 2, .inl (cI, 4, .inl (fun _ => 0))), (am 3, .inl (cJ, 240, .inr (.inl (fun _ => 0))))] := hD
  refine W.widen (k := 90) (n := 14039) (by decide) (by decide) ?_
  refine lv_aload_n hx hb dL_law_1465 rfl (lv_at hl 1 rfl) ?_
  refine lv_aload_n hx hb dL_law_1466 rfl (lv_at hl 3 rfl) ?_
  refine lv_iload_n hx hb dL_law_1467 rfl (lv_at hl 0 rfl) ?_
  refine lv_iconst (v := 1) hx hb dL_law_1468 (by decide) ?_
  refine lv_iadd hx hb dL_law_1469 ?_
  refine z_topi (y := 1) (by decide +kernel) ?_
  refine va_sld hx hb hXs hbl hbA hS (z_in (a := 1) (by decide) (by decide) (by decide)) dL_law_1470 ?_
  refine z_topi (y := xs 1) rfl ?_
  refine lv_aload_n hx hb dL_law_1471 rfl (lv_at hl 3 rfl) ?_
  refine lv_iload_n hx hb dL_law_1472 rfl (lv_at hl 0 rfl) ?_
  refine lv_iconst (v := 2) hx hb dL_law_1473 (by decide) ?_
  refine lv_iadd hx hb dL_law_1474 ?_
  refine z_topi (y := 2) (by decide +kernel) ?_
  refine va_sld hx hb hXs hbl hbA hS (z_in (a := 2) (by decide) (by decide) (by decide)) dL_law_1475 ?_
  refine z_topi (y := xs 2) rfl ?_
  refine lv_aload_n hx hb dL_law_1476 rfl (lv_at hl 3 rfl) ?_
  refine lv_iload_n hx hb dL_law_1477 rfl (lv_at hl 0 rfl) ?_
  refine lv_iconst (v := 3) hx hb dL_law_1478 (by decide) ?_
  refine lv_iadd hx hb dL_law_1479 ?_
  refine z_topi (y := 3) (by decide +kernel) ?_
  refine va_sld hx hb hXs hbl hbA hS (z_in (a := 3) (by decide) (by decide) (by decide)) dL_law_1480 ?_
  refine z_topi (y := xs 3) rfl ?_
  refine z_fini (w' := fun (_ : Unit) => []) (va_runV (As := [.int (xs 1), .int (xs 2), .int (xs 3)]) (rest := [.int r1]) ⟨hx, hb, hml, hown, hts⟩ (c_X9_row_142 l dC dI cB cI cJ cZ cP cQ am H.size (xs 1) (xs 2) (xs 3)) (cwV 3 hts gT_X9_row rfl rfl rfl (by decide +kernel) ⟨Nat.le_of_ble_eq_true rfl, Nat.le_of_ble_eq_true rfl⟩) (z_pV (ci := 9) hK hP hD zX_nil [0, 1, 2, 3] (by decide) rfl rfl 0 rfl) rfl rfl hl.1 rfl (lv_room (Nat.le_of_ble_eq_true rfl)) dL_law_1481 ⟨Nat.le_of_ble_eq_true rfl, Nat.le_of_ble_eq_true rfl⟩) hP hD hS hA [0, 1, 2, 3] [] [] rfl rfl (by decide) (by decide) (fun _ => rfl) (by decide) (fun r4 u5 H locs hp6 hP hD hS => ?_)
  have hP : va_P (dC, dI) vwCl [] H := hP
  have hD : va_D (fun q : Nat => s.heap.size ≤ q) [] := hD
  refine W.widen (k := 90) (n := 14039) (by decide) (by decide) ?_
  have heq : r1 = r4 := by
    rcases hp3 with ⟨rfl, a0⟩ | ⟨rfl, a0, a1⟩ | ⟨rfl, a0, a1, a2⟩ | ⟨rfl, a0, a1, a2, a3⟩ | ⟨rfl, a0, a1, a2, a3, a4, a5, a6⟩ | ⟨rfl, a0, a1, a2, a3, a4, a5, a6, a7⟩ | ⟨rfl, a0, a1, a2, a3, a4, a5, a6, a7⟩ | ⟨rfl, a0, a1, a2, a3, a4, a5⟩ | ⟨rfl, a0, a1, a2, a3, a4⟩ <;> (rcases hp6 with ⟨rfl, b0⟩ | ⟨rfl, b0, b1⟩ | ⟨rfl, b0, b1, b2⟩ | ⟨rfl, b0, b1, b2, b3⟩ | ⟨rfl, b0, b1, b2, b3, b4, b5⟩ | ⟨rfl, b0, b1, b2, b3, b4, b5⟩ | ⟨rfl, b0, b1, b2, b3, b4⟩ <;> first | rfl | (exfalso; omega))
  refine lv_icmp_eq (tgt := 1625) hx hb dL_law_1484 (by decide) (fun _ => ?_) (fun c => absurd heq c)
  exact law_tail C0 hS (by decide) (by decide) (lv_sub hl [0, 1, 2, 3] rfl)
set_option maxHeartbeats 4000000 in
set_option maxRecDepth 100000 in
theorem law_case41 {p : Program} {e : Env} {s : State} {m : MethodId} {below : List Frame} {meth : Method} {c : Code} {b : Nat} {xs : Nat → Int32} (l : Launch) (dC : Nat → ClassId) (dI : Nat → Nat → Nat) (cB cI cJ cZ cP cQ : ClassId) (ad am : Nat → Nat) (C0 : lw_At p s m meth c b 6 xs) (H : Heap) (locs : List Loc) (hK : va_K (dC, dI) vwCl (zT cB cI cJ cZ cP cQ) s) (hP : va_P (dC, dI) vwCl (zxw cB cI cJ cZ cP cQ ad ++ zmw cB cI cJ cZ cP cQ am) H) (hD : va_D (fun q : Nat => s.heap.size ≤ q) (zxw cB cI cJ cZ cP cQ ad ++ zmw cB cI cJ cZ cP cQ am)) (hS : va_S (fun q : Nat => s.heap.size ≤ q) s.heap H locs) (hX : zX [(RX1, 44, yX8_thousandths, "MonthPush"), (RX2, 18, yX5_init, "MonthPush"), (RX8, 380, yX2_init, "MonthPush")] [] s) (ls : Array Slot) (hl : lv_has ls 4 [(3, .int 0), (2, .ref (am 0)), (1, .ref (ad 0)), (0, .ref b)]) : W p l e room_1 s m #[Value.ref b] below meth c H locs 90 14039 (lw_Z below #[Value.ref b] s) (F0 m 1489 ls []) := by
  obtain ⟨hx, hb, hr, hml, hown, hts, hXs, hbl, hlocks, hgv⟩ := id C0
  have hown : s.vm.findClass RL = some m.cls := hown
  have hA : ∀ q : Nat, s.heap.size ≤ q → (fun q : Nat => s.heap.size ≤ q) q := fun _ h => h
  have hbA : ¬ (fun q : Nat => s.heap.size ≤ q) b := Nat.not_le.mpr hbl
  have hk0 := hts (.constantLong RL 187 4294967295) (by decide +kernel)
  refine lv_aload_n hx hb dL_law_1489 rfl (lv_at hl 2 rfl) ?_
  refine lv_aload_n hx hb dL_law_1490 rfl (lv_at hl 3 rfl) ?_
  refine lv_iload_n hx hb dL_law_1491 rfl (lv_at hl 0 rfl) ?_
  refine lv_iconst (v := 1) hx hb dL_law_1492 (by decide) ?_
  refine lv_iadd hx hb dL_law_1493 ?_
  refine z_topi (y := 1) (by decide +kernel) ?_
  refine va_sld hx hb hXs hbl hbA hS (z_in (a := 1) (by decide) (by decide) (by decide)) dL_law_1494 ?_
  refine z_topi (y := xs 1) rfl ?_
  refine lv_aload_n hx hb dL_law_1495 rfl (lv_at hl 3 rfl) ?_
  refine lv_iload_n hx hb dL_law_1496 rfl (lv_at hl 0 rfl) ?_
  refine lv_iconst (v := 2) hx hb dL_law_1497 (by decide) ?_
  refine lv_iadd hx hb dL_law_1498 ?_
  refine z_topi (y := 2) (by decide +kernel) ?_
  refine va_sld hx hb hXs hbl hbA hS (z_in (a := 2) (by decide) (by decide) (by decide)) dL_law_1499 ?_
  refine z_topi (y := xs 2) rfl ?_
  refine lv_aload_n hx hb dL_law_1500 rfl (lv_at hl 3 rfl) ?_
  refine lv_iload_n hx hb dL_law_1501 rfl (lv_at hl 0 rfl) ?_
  refine lv_iconst (v := 3) hx hb dL_law_1502 (by decide) ?_
  refine lv_iadd hx hb dL_law_1503 ?_
  refine z_topi (y := 3) (by decide +kernel) ?_
  refine va_sld hx hb hXs hbl hbA hS (z_in (a := 3) (by decide) (by decide) (by decide)) dL_law_1504 ?_
  refine z_topi (y := xs 3) rfl ?_
  refine lv_i2l hx hb dL_law_1505 rfl ?_
  refine lv_bipush (v := 32) hx hb dL_law_1506 (by decide) ?_
  refine lv_lshl hx hb dL_law_1508 rfl ?_
  refine lv_aload_n hx hb dL_law_1509 rfl (lv_at hl 3 rfl) ?_
  refine lv_iload_n hx hb dL_law_1510 rfl (lv_at hl 0 rfl) ?_
  refine lv_iconst (v := 4) hx hb dL_law_1511 (by decide) ?_
  refine lv_iadd hx hb dL_law_1512 ?_
  refine z_topi (y := 4) (by decide +kernel) ?_
  refine va_sld hx hb hXs hbl hbA hS (z_in (a := 4) (by decide) (by decide) (by decide)) dL_law_1513 ?_
  refine z_topi (y := xs 4) rfl ?_
  refine lv_i2l hx hb dL_law_1514 rfl ?_
  refine lv_ldc2 hx hb hown hk0 dL_law_1515 ?_
  refine lv_land hx hb dL_law_1518 ?_
  refine lv_lor hx hb dL_law_1519 ?_
  refine z_fini (w' := fun (_ : Unit) => [(am 0, .inr (9, mf0 am)), (am 1, .inl (cI, 4, .inl (fun _ => (-1))))]) (va_runV (As := [.int (xs 1), .int (xs 2), .long ((((xs 3).toInt64) <<< (Int32.toInt64 32 &&& 63)) ||| (((xs 4).toInt64) &&& 4294967295))]) (rest := []) ⟨hx, hb, hml, hown, hts⟩ (c_X8_write_138 l dC dI cB cI cJ cZ cP cQ ad H.size (xs 1) (xs 2) ((((xs 3).toInt64) <<< (Int32.toInt64 32 &&& 63)) ||| (((xs 4).toInt64) &&& 4294967295))) (cwV 3 hts gT_X8_write rfl rfl rfl (by decide +kernel) ⟨Nat.le_of_ble_eq_true rfl, Nat.le_of_ble_eq_true rfl⟩) (z_pV (ci := 8) hK hP hD zX_nil [0, 44, 45, 47, 49, 51] (by decide) rfl rfl 0 rfl) rfl rfl hl.1 rfl (lv_room (Nat.le_of_ble_eq_true rfl)) dL_law_1520 ⟨Nat.le_of_ble_eq_true rfl, Nat.le_of_ble_eq_true rfl⟩) hP hD hS hA [0, 44, 45, 47, 49, 51] [53, 54] [0, 1] rfl rfl (by decide) (by decide) (fun _ => rfl) (by decide) (fun r1 u2 H locs hp3 hP hD hS => ?_)
  have hP : va_P (dC, dI) vwCl [(am 0, .inr (9, mf0 am)), (am 1, .inl (cI, 4, .inl (fun _ => (-1))))] H := hP
  have hD : va_D (fun q : Nat => s.heap.size ≤ q) [(am 0, .inr (9, mf0 am)), (am 1, .inl (cI, 4, .inl (fun _ => (-1))))] := hD
  refine W.widen (k := 90) (n := 14039) (by decide) (by decide) ?_
  refine lv_aload_n hx hb dL_law_1523 rfl (lv_at hl 1 rfl) ?_
  refine lv_aload_n hx hb dL_law_1524 rfl (lv_at hl 3 rfl) ?_
  refine lv_iload_n hx hb dL_law_1525 rfl (lv_at hl 0 rfl) ?_
  refine lv_iconst (v := 1) hx hb dL_law_1526 (by decide) ?_
  refine lv_iadd hx hb dL_law_1527 ?_
  refine z_topi (y := 1) (by decide +kernel) ?_
  refine va_sld hx hb hXs hbl hbA hS (z_in (a := 1) (by decide) (by decide) (by decide)) dL_law_1528 ?_
  refine z_topi (y := xs 1) rfl ?_
  refine lv_aload_n hx hb dL_law_1529 rfl (lv_at hl 3 rfl) ?_
  refine lv_iload_n hx hb dL_law_1530 rfl (lv_at hl 0 rfl) ?_
  refine lv_iconst (v := 2) hx hb dL_law_1531 (by decide) ?_
  refine lv_iadd hx hb dL_law_1532 ?_
  refine z_topi (y := 2) (by decide +kernel) ?_
  refine va_sld hx hb hXs hbl hbA hS (z_in (a := 2) (by decide) (by decide) (by decide)) dL_law_1533 ?_
  refine z_topi (y := xs 2) rfl ?_
  refine lv_aload_n hx hb dL_law_1534 rfl (lv_at hl 3 rfl) ?_
  refine lv_iload_n hx hb dL_law_1535 rfl (lv_at hl 0 rfl) ?_
  refine lv_iconst (v := 3) hx hb dL_law_1536 (by decide) ?_
  refine lv_iadd hx hb dL_law_1537 ?_
  refine z_topi (y := 3) (by decide +kernel) ?_
  refine va_sld hx hb hXs hbl hbA hS (z_in (a := 3) (by decide) (by decide) (by decide)) dL_law_1538 ?_
  refine z_topi (y := xs 3) rfl ?_
  refine lv_i2l hx hb dL_law_1539 rfl ?_
  refine lv_bipush (v := 32) hx hb dL_law_1540 (by decide) ?_
  refine lv_lshl hx hb dL_law_1542 rfl ?_
  refine lv_aload_n hx hb dL_law_1543 rfl (lv_at hl 3 rfl) ?_
  refine lv_iload_n hx hb dL_law_1544 rfl (lv_at hl 0 rfl) ?_
  refine lv_iconst (v := 4) hx hb dL_law_1545 (by decide) ?_
  refine lv_iadd hx hb dL_law_1546 ?_
  refine z_topi (y := 4) (by decide +kernel) ?_
  refine va_sld hx hb hXs hbl hbA hS (z_in (a := 4) (by decide) (by decide) (by decide)) dL_law_1547 ?_
  refine z_topi (y := xs 4) rfl ?_
  refine lv_i2l hx hb dL_law_1548 rfl ?_
  refine lv_ldc2 hx hb hown hk0 dL_law_1549 ?_
  refine lv_land hx hb dL_law_1552 ?_
  refine lv_lor hx hb dL_law_1553 ?_
  refine z_fini (w' := fun (_ : Unit) => []) (va_runV (As := [.int (xs 1), .int (xs 2), .long ((((xs 3).toInt64) <<< (Int32.toInt64 32 &&& 63)) ||| (((xs 4).toInt64) &&& 4294967295))]) (rest := [.int r1]) ⟨hx, hb, hml, hown, hts⟩ (c_X9_write_143 l dC dI cB cI cJ cZ cP cQ am H.size (xs 1) (xs 2) ((((xs 3).toInt64) <<< (Int32.toInt64 32 &&& 63)) ||| (((xs 4).toInt64) &&& 4294967295))) (cwV 3 hts gT_X9_write rfl rfl rfl (by decide +kernel) ⟨Nat.le_of_ble_eq_true rfl, Nat.le_of_ble_eq_true rfl⟩) (z_pV (ci := 9) hK hP hD zX_nil [0, 1] (by decide) rfl rfl 0 rfl) rfl rfl hl.1 rfl (lv_room (Nat.le_of_ble_eq_true rfl)) dL_law_1554 ⟨Nat.le_of_ble_eq_true rfl, Nat.le_of_ble_eq_true rfl⟩) hP hD hS hA [0, 1] [] [] rfl rfl (by decide) (by decide) (fun _ => rfl) (by decide) (fun r4 u5 H locs hp6 hP hD hS => ?_)
  have hP : va_P (dC, dI) vwCl [] H := hP
  have hD : va_D (fun q : Nat => s.heap.size ≤ q) [] := hD
  refine W.widen (k := 90) (n := 14039) (by decide) (by decide) ?_
  have heq : r1 = r4 := by
    rcases hp3 with ⟨rfl, a0⟩ | ⟨rfl, a0, a1⟩ | ⟨rfl, a0, a1⟩ <;> (rcases hp6 with ⟨rfl, b0⟩ | ⟨rfl, b0, b1⟩ | ⟨rfl, b0, b1⟩ <;> first | rfl | (exfalso; omega))
  refine lv_icmp_eq (tgt := 1625) hx hb dL_law_1557 (by decide) (fun _ => ?_) (fun c => absurd heq c)
  exact law_tail C0 hS (by decide) (by decide) (lv_sub hl [0, 1, 2, 3] rfl)
set_option maxHeartbeats 4000000 in
set_option maxRecDepth 100000 in
theorem law_case42 {p : Program} {e : Env} {s : State} {m : MethodId} {below : List Frame} {meth : Method} {c : Code} {b : Nat} {xs : Nat → Int32} (l : Launch) (dC : Nat → ClassId) (dI : Nat → Nat → Nat) (cB cI cJ cZ cP cQ : ClassId) (ad am : Nat → Nat) (C0 : lw_At p s m meth c b 6 xs) (H : Heap) (locs : List Loc) (hK : va_K (dC, dI) vwCl (zT cB cI cJ cZ cP cQ) s) (hP : va_P (dC, dI) vwCl (zxw cB cI cJ cZ cP cQ ad ++ zmw cB cI cJ cZ cP cQ am) H) (hD : va_D (fun q : Nat => s.heap.size ≤ q) (zxw cB cI cJ cZ cP cQ ad ++ zmw cB cI cJ cZ cP cQ am)) (hS : va_S (fun q : Nat => s.heap.size ≤ q) s.heap H locs) (hX : zX [(RX1, 44, yX8_thousandths, "MonthPush"), (RX2, 18, yX5_init, "MonthPush"), (RX8, 380, yX2_init, "MonthPush")] [] s) (ls : Array Slot) (hl : lv_has ls 4 [(3, .int 0), (2, .ref (am 0)), (1, .ref (ad 0)), (0, .ref b)]) : W p l e room_1 s m #[Value.ref b] below meth c H locs 90 14039 (lw_Z below #[Value.ref b] s) (F0 m 1562 ls []) := by
  obtain ⟨hx, hb, hr, hml, hown, hts, hXs, hbl, hlocks, hgv⟩ := id C0
  have hown : s.vm.findClass RL = some m.cls := hown
  have hA : ∀ q : Nat, s.heap.size ≤ q → (fun q : Nat => s.heap.size ≤ q) q := fun _ h => h
  have hbA : ¬ (fun q : Nat => s.heap.size ≤ q) b := Nat.not_le.mpr hbl
  refine lv_aload_n hx hb dL_law_1562 rfl (lv_at hl 2 rfl) ?_
  refine lv_aload_n hx hb dL_law_1563 rfl (lv_at hl 3 rfl) ?_
  refine lv_iload_n hx hb dL_law_1564 rfl (lv_at hl 0 rfl) ?_
  refine lv_iconst (v := 1) hx hb dL_law_1565 (by decide) ?_
  refine lv_iadd hx hb dL_law_1566 ?_
  refine z_topi (y := 1) (by decide +kernel) ?_
  refine va_sld hx hb hXs hbl hbA hS (z_in (a := 1) (by decide) (by decide) (by decide)) dL_law_1567 ?_
  refine z_topi (y := xs 1) rfl ?_
  refine lv_aload_n hx hb dL_law_1568 rfl (lv_at hl 3 rfl) ?_
  refine lv_iload_n hx hb dL_law_1569 rfl (lv_at hl 0 rfl) ?_
  refine lv_iconst (v := 2) hx hb dL_law_1570 (by decide) ?_
  refine lv_iadd hx hb dL_law_1571 ?_
  refine z_topi (y := 2) (by decide +kernel) ?_
  refine va_sld hx hb hXs hbl hbA hS (z_in (a := 2) (by decide) (by decide) (by decide)) dL_law_1572 ?_
  refine z_topi (y := xs 2) rfl ?_
  refine lv_aload_n hx hb dL_law_1573 rfl (lv_at hl 3 rfl) ?_
  refine lv_iload_n hx hb dL_law_1574 rfl (lv_at hl 0 rfl) ?_
  refine lv_iconst (v := 3) hx hb dL_law_1575 (by decide) ?_
  refine lv_iadd hx hb dL_law_1576 ?_
  refine z_topi (y := 3) (by decide +kernel) ?_
  refine va_sld hx hb hXs hbl hbA hS (z_in (a := 3) (by decide) (by decide) (by decide)) dL_law_1577 ?_
  refine z_topi (y := xs 3) rfl ?_
  refine lv_aload_n hx hb dL_law_1578 rfl (lv_at hl 3 rfl) ?_
  refine lv_iload_n hx hb dL_law_1579 rfl (lv_at hl 0 rfl) ?_
  refine lv_iconst (v := 4) hx hb dL_law_1580 (by decide) ?_
  refine lv_iadd hx hb dL_law_1581 ?_
  refine z_topi (y := 4) (by decide +kernel) ?_
  refine va_sld hx hb hXs hbl hbA hS (z_in (a := 4) (by decide) (by decide) (by decide)) dL_law_1582 ?_
  refine z_topi (y := xs 4) rfl ?_
  refine lv_aload_n hx hb dL_law_1583 rfl (lv_at hl 3 rfl) ?_
  refine lv_iload_n hx hb dL_law_1584 rfl (lv_at hl 0 rfl) ?_
  refine lv_iconst (v := 5) hx hb dL_law_1585 (by decide) ?_
  refine lv_iadd hx hb dL_law_1586 ?_
  refine z_topi (y := 5) (by decide +kernel) ?_
  refine va_sld hx hb hXs hbl hbA hS (z_in (a := 5) (by decide) (by decide) (by decide)) dL_law_1587 ?_
  refine z_topi (y := xs 5) rfl ?_
  refine z_fini (w' := fun (_ : Unit) => [(am 0, .inr (9, mf0 am)), (am 1, .inl (cI, 4, .inl (fun _ => (-1))))]) (va_runV (As := [.int (xs 1), .int (xs 2), .int (xs 3), .int (xs 4), .int (xs 5)]) (rest := []) ⟨hx, hb, hml, hown, hts⟩ (c_X8_paste_139 l dC dI cB cI cJ cZ cP cQ ad H.size (xs 1) (xs 2) (xs 3) (xs 4) (xs 5)) (cwV 5 hts gT_X8_paste rfl rfl rfl (by decide +kernel) ⟨Nat.le_of_ble_eq_true rfl, Nat.le_of_ble_eq_true rfl⟩) (z_pV (ci := 8) hK hP hD zX_nil [0, 44, 45, 47, 49, 51] (by decide) rfl rfl 0 rfl) rfl rfl hl.1 rfl (lv_room (Nat.le_of_ble_eq_true rfl)) dL_law_1588 ⟨Nat.le_of_ble_eq_true rfl, Nat.le_of_ble_eq_true rfl⟩) hP hD hS hA [0, 44, 45, 47, 49, 51] [53, 54] [0, 1] rfl rfl (by decide) (by decide) (fun _ => rfl) (by decide) (fun r1 u2 H locs hp3 hP hD hS => ?_)
  have hP : va_P (dC, dI) vwCl [(am 0, .inr (9, mf0 am)), (am 1, .inl (cI, 4, .inl (fun _ => (-1))))] H := hP
  have hD : va_D (fun q : Nat => s.heap.size ≤ q) [(am 0, .inr (9, mf0 am)), (am 1, .inl (cI, 4, .inl (fun _ => (-1))))] := hD
  refine W.widen (k := 90) (n := 14039) (by decide) (by decide) ?_
  refine lv_aload_n hx hb dL_law_1591 rfl (lv_at hl 1 rfl) ?_
  refine lv_aload_n hx hb dL_law_1592 rfl (lv_at hl 3 rfl) ?_
  refine lv_iload_n hx hb dL_law_1593 rfl (lv_at hl 0 rfl) ?_
  refine lv_iconst (v := 1) hx hb dL_law_1594 (by decide) ?_
  refine lv_iadd hx hb dL_law_1595 ?_
  refine z_topi (y := 1) (by decide +kernel) ?_
  refine va_sld hx hb hXs hbl hbA hS (z_in (a := 1) (by decide) (by decide) (by decide)) dL_law_1596 ?_
  refine z_topi (y := xs 1) rfl ?_
  refine lv_aload_n hx hb dL_law_1597 rfl (lv_at hl 3 rfl) ?_
  refine lv_iload_n hx hb dL_law_1598 rfl (lv_at hl 0 rfl) ?_
  refine lv_iconst (v := 2) hx hb dL_law_1599 (by decide) ?_
  refine lv_iadd hx hb dL_law_1600 ?_
  refine z_topi (y := 2) (by decide +kernel) ?_
  refine va_sld hx hb hXs hbl hbA hS (z_in (a := 2) (by decide) (by decide) (by decide)) dL_law_1601 ?_
  refine z_topi (y := xs 2) rfl ?_
  refine lv_aload_n hx hb dL_law_1602 rfl (lv_at hl 3 rfl) ?_
  refine lv_iload_n hx hb dL_law_1603 rfl (lv_at hl 0 rfl) ?_
  refine lv_iconst (v := 3) hx hb dL_law_1604 (by decide) ?_
  refine lv_iadd hx hb dL_law_1605 ?_
  refine z_topi (y := 3) (by decide +kernel) ?_
  refine va_sld hx hb hXs hbl hbA hS (z_in (a := 3) (by decide) (by decide) (by decide)) dL_law_1606 ?_
  refine z_topi (y := xs 3) rfl ?_
  refine lv_aload_n hx hb dL_law_1607 rfl (lv_at hl 3 rfl) ?_
  refine lv_iload_n hx hb dL_law_1608 rfl (lv_at hl 0 rfl) ?_
  refine lv_iconst (v := 4) hx hb dL_law_1609 (by decide) ?_
  refine lv_iadd hx hb dL_law_1610 ?_
  refine z_topi (y := 4) (by decide +kernel) ?_
  refine va_sld hx hb hXs hbl hbA hS (z_in (a := 4) (by decide) (by decide) (by decide)) dL_law_1611 ?_
  refine z_topi (y := xs 4) rfl ?_
  refine lv_aload_n hx hb dL_law_1612 rfl (lv_at hl 3 rfl) ?_
  refine lv_iload_n hx hb dL_law_1613 rfl (lv_at hl 0 rfl) ?_
  refine lv_iconst (v := 5) hx hb dL_law_1614 (by decide) ?_
  refine lv_iadd hx hb dL_law_1615 ?_
  refine z_topi (y := 5) (by decide +kernel) ?_
  refine va_sld hx hb hXs hbl hbA hS (z_in (a := 5) (by decide) (by decide) (by decide)) dL_law_1616 ?_
  refine z_topi (y := xs 5) rfl ?_
  refine z_fini (w' := fun (_ : Unit) => []) (va_runV (As := [.int (xs 1), .int (xs 2), .int (xs 3), .int (xs 4), .int (xs 5)]) (rest := [.int r1]) ⟨hx, hb, hml, hown, hts⟩ (c_X9_paste_144 l dC dI cB cI cJ cZ cP cQ am H.size (xs 1) (xs 2) (xs 3) (xs 4) (xs 5)) (cwV 5 hts gT_X9_paste rfl rfl rfl (by decide +kernel) ⟨Nat.le_of_ble_eq_true rfl, Nat.le_of_ble_eq_true rfl⟩) (z_pV (ci := 9) hK hP hD zX_nil [0, 1] (by decide) rfl rfl 0 rfl) rfl rfl hl.1 rfl (lv_room (Nat.le_of_ble_eq_true rfl)) dL_law_1617 ⟨Nat.le_of_ble_eq_true rfl, Nat.le_of_ble_eq_true rfl⟩) hP hD hS hA [0, 1] [] [] rfl rfl (by decide) (by decide) (fun _ => rfl) (by decide) (fun r4 u5 H locs hp6 hP hD hS => ?_)
  have hP : va_P (dC, dI) vwCl [] H := hP
  have hD : va_D (fun q : Nat => s.heap.size ≤ q) [] := hD
  refine W.widen (k := 90) (n := 14039) (by decide) (by decide) ?_
  have heq : r1 = r4 := by
    rcases hp3 with ⟨rfl, a0⟩ | ⟨rfl, a0, a1⟩ | ⟨rfl, a0, a1, a2⟩ | ⟨rfl, a0, a1, a2, a3⟩ | ⟨rfl, a0, a1, a2, a3⟩ <;> (rcases hp6 with ⟨rfl, b0⟩ | ⟨rfl, b0, b1⟩ | ⟨rfl, b0, b1, b2⟩ | ⟨rfl, b0, b1, b2, b3⟩ | ⟨rfl, b0, b1, b2, b3⟩ <;> first | rfl | (exfalso; omega))
  refine lv_icmp_eq (tgt := 1625) hx hb dL_law_1620 (by decide) (fun _ => ?_) (fun c => absurd heq c)
  exact law_tail C0 hS (by decide) (by decide) (lv_sub hl [0, 1, 2, 3] rfl)
