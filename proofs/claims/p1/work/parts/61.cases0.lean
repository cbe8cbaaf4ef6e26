set_option maxHeartbeats 4000000 in
set_option maxRecDepth 100000 in
theorem law_case0 {p : Program} {e : Env} {s : State} {m : MethodId} {below : List Frame} {meth : Method} {c : Code} {b : Nat} {xs : Nat → Int32} (l : Launch) (dC : Nat → ClassId) (dI : Nat → Nat → Nat) (cB cI cJ cZ cP cQ : ClassId) (ad am : Nat → Nat) (C0 : lw_At p s m meth c b 6 xs) (H : Heap) (locs : List Loc) (hK : va_K (dC, dI) vwCl (zT cB cI cJ cZ cP cQ) s) (hP : va_P (dC, dI) vwCl (zxw cB cI cJ cZ cP cQ ad ++ zmw cB cI cJ cZ cP cQ am) H) (hD : va_D (fun q : Nat => s.heap.size ≤ q) (zxw cB cI cJ cZ cP cQ ad ++ zmw cB cI cJ cZ cP cQ am)) (hS : va_S (fun q : Nat => s.heap.size ≤ q) s.heap H locs) (hX : zX [(RX1, 44, yX8_thousandths, "MonthPush"), (RX2, 18, yX5_init, "MonthPush"), (RX8, 380, yX2_init, "MonthPush")] [] s) (ls : Array Slot) (hl : lv_has ls 4 [(3, .int 0), (2, .ref (am 0)), (1, .ref (ad 0)), (0, .ref b)]) : W p l e room_1 s m #[Value.ref b] below meth c H locs 90 14039 (lw_Z below #[Value.ref b] s) (F0 m 220 ls []) := by
  obtain ⟨hx, hb, hr, hml, hown, hts, hXs, hbl, hlocks, hgv⟩ := id C0
  have hown : s.vm.findClass RL = some m.cls := hown
  have hA : ∀ q : Nat, s.heap.size ≤ q → (fun q : Nat => s.heap.size ≤ q) q := fun _ h => h
  have hbA : ¬ (fun q : Nat => s.heap.size ≤ q) b := Nat.not_le.mpr hbl
  refine lv_aload_n hx hb dL_law_220 rfl (lv_at hl 2 rfl) ?_
  refine lv_aload_n hx hb dL_law_221 rfl (lv_at hl 3 rfl) ?_
  refine lv_iload_n hx hb dL_law_222 rfl (lv_at hl 0 rfl) ?_
  refine lv_iconst (v := 1) hx hb dL_law_223 (by decide) ?_
  refine lv_iadd hx hb dL_law_224 ?_
  refine z_topi (y := 1) (by decide +kernel) ?_
  refine va_sld hx hb hXs hbl hbA hS (z_in (a := 1) (by decide) (by decide) (by decide)) dL_law_225 ?_
  refine z_topi (y := xs 1) rfl ?_
  refine lv_aload_n hx hb dL_law_226 rfl (lv_at hl 3 rfl) ?_
  refine lv_iload_n hx hb dL_law_227 rfl (lv_at hl 0 rfl) ?_
  refine lv_iconst (v := 2) hx hb dL_law_228 (by decide) ?_
  refine lv_iadd hx hb dL_law_229 ?_
  refine z_topi (y := 2) (by decide +kernel) ?_
  refine va_sld hx hb hXs hbl hbA hS (z_in (a := 2) (by decide) (by decide) (by decide)) dL_law_230 ?_
  refine z_topi (y := xs 2) rfl ?_
  refine lv_aload_n hx hb dL_law_231 rfl (lv_at hl 3 rfl) ?_
  refine lv_iload_n hx hb dL_law_232 rfl (lv_at hl 0 rfl) ?_
  refine lv_iconst (v := 3) hx hb dL_law_233 (by decide) ?_
  refine lv_iadd hx hb dL_law_234 ?_
  refine z_topi (y := 3) (by decide +kernel) ?_
  refine va_sld hx hb hXs hbl hbA hS (z_in (a := 3) (by decide) (by decide) (by decide)) dL_law_235 ?_
  refine z_topi (y := xs 3) rfl ?_
  refine lv_aload_n hx hb dL_law_236 rfl (lv_at hl 3 rfl) ?_
  refine lv_iload_n hx hb dL_law_237 rfl (lv_at hl 0 rfl) ?_
  refine lv_iconst (v := 4) hx hb dL_law_238 (by decide) ?_
  refine lv_iadd hx hb dL_law_239 ?_
  refine z_topi (y := 4) (by decide +kernel) ?_
  refine va_sld hx hb hXs hbl hbA hS (z_in (a := 4) (by decide) (by decide) (by decide)) dL_law_240 ?_
  refine z_topi (y := xs 4) rfl ?_
  refine lv_aload_n hx hb dL_law_241 rfl (lv_at hl 3 rfl) ?_
  refine lv_iload_n hx hb dL_law_242 rfl (lv_at hl 0 rfl) ?_
  refine lv_iconst (v := 5) hx hb dL_law_243 (by decide) ?_
  refine lv_iadd hx hb dL_law_244 ?_
  refine z_topi (y := 5) (by decide +kernel) ?_
  refine va_sld hx hb hXs hbl hbA hS (z_in (a := 5) (by decide) (by decide) (by decide)) dL_law_245 ?_
  refine z_topi (y := xs 5) rfl ?_
  refine z_fini (w' := fun (_ : Unit) => [(am 0, .inr (9, mf0 am)), (am 5, .inl (cB, 600, .inl (fun _ => 0)))]) (va_runV (As := [.int (xs 1), .int (xs 2), .int (xs 3), .int (xs 4), .int (xs 5)]) (rest := []) ⟨hx, hb, hml, hown, hts⟩ (c_X8_feed_15 l dC dI cB cI cJ cZ cP cQ ad H.size (xs 1) (xs 2) (xs 3) (xs 4) (xs 5)) (cwV 5 hts gT_X8_feed rfl rfl rfl (by decide +kernel) ⟨Nat.le_of_ble_eq_true rfl, Nat.le_of_ble_eq_true rfl⟩) (z_pV (ci := 8) hK hP hD zX_nil [0, 1, 2] (by decide) rfl rfl 0 rfl) rfl rfl hl.1 rfl (lv_room (Nat.le_of_ble_eq_true rfl)) dL_law_246 ⟨Nat.le_of_ble_eq_true rfl, Nat.le_of_ble_eq_true rfl⟩) hP hD hS hA [0, 1, 2] [53, 58] [0, 1] rfl rfl (by decide) (by decide) (fun _ => rfl) (by decide) (fun r1 u2 H locs hp3 hP hD hS => ?_)
  have hP : va_P (dC, dI) vwCl [(am 0, .inr (9, mf0 am)), (am 5, .inl (cB, 600, .inl (fun _ => 0)))] H := hP
  have hD : va_D (fun q : Nat => s.heap.size ≤ q) [(am 0, .inr (9, mf0 am)), (am 5, .inl (cB, 600, .inl (fun _ => 0)))] := hD
  refine W.widen (k := 90) (n := 14039) (by decide) (by decide) ?_
  refine lv_aload_n hx hb dL_law_249 rfl (lv_at hl 1 rfl) ?_
  refine lv_aload_n hx hb dL_law_250 rfl (lv_at hl 3 rfl) ?_
  refine lv_iload_n hx hb dL_law_251 rfl (lv_at hl 0 rfl) ?_
  refine lv_iconst (v := 1) hx hb dL_law_252 (by decide) ?_
  refine lv_iadd hx hb dL_law_253 ?_
  refine z_topi (y := 1) (by decide +kernel) ?_
  refine va_sld hx hb hXs hbl hbA hS (z_in (a := 1) (by decide) (by decide) (by decide)) dL_law_254 ?_
  refine z_topi (y := xs 1) rfl ?_
  refine lv_aload_n hx hb dL_law_255 rfl (lv_at hl 3 rfl) ?_
  refine lv_iload_n hx hb dL_law_256 rfl (lv_at hl 0 rfl) ?_
  refine lv_iconst (v := 2) hx hb dL_law_257 (by decide) ?_
  refine lv_iadd hx hb dL_law_258 ?_
  refine z_topi (y := 2) (by decide +kernel) ?_
  refine va_sld hx hb hXs hbl hbA hS (z_in (a := 2) (by decide) (by decide) (by decide)) dL_law_259 ?_
  refine z_topi (y := xs 2) rfl ?_
  refine lv_aload_n hx hb dL_law_260 rfl (lv_at hl 3 rfl) ?_
  refine lv_iload_n hx hb dL_law_261 rfl (lv_at hl 0 rfl) ?_
  refine lv_iconst (v := 3) hx hb dL_law_262 (by decide) ?_
  refine lv_iadd hx hb dL_law_263 ?_
  refine z_topi (y := 3) (by decide +kernel) ?_
  refine va_sld hx hb hXs hbl hbA hS (z_in (a := 3) (by decide) (by decide) (by decide)) dL_law_264 ?_
  refine z_topi (y := xs 3) rfl ?_
  refine lv_aload_n hx hb dL_law_265 rfl (lv_at hl 3 rfl) ?_
  refine lv_iload_n hx hb dL_law_266 rfl (lv_at hl 0 rfl) ?_
  refine lv_iconst (v := 4) hx hb dL_law_267 (by decide) ?_
  refine lv_iadd hx hb dL_law_268 ?_
  refine z_topi (y := 4) (by decide +kernel) ?_
  refine va_sld hx hb hXs hbl hbA hS (z_in (a := 4) (by decide) (by decide) (by decide)) dL_law_269 ?_
  refine z_topi (y := xs 4) rfl ?_
  refine lv_aload_n hx hb dL_law_270 rfl (lv_at hl 3 rfl) ?_
  refine lv_iload_n hx hb dL_law_271 rfl (lv_at hl 0 rfl) ?_
  refine lv_iconst (v := 5) hx hb dL_law_272 (by decide) ?_
  refine lv_iadd hx hb dL_law_273 ?_
  refine z_topi (y := 5) (by decide +kernel) ?_
  refine va_sld hx hb hXs hbl hbA hS (z_in (a := 5) (by decide) (by decide) (by decide)) dL_law_274 ?_
  refine z_topi (y := xs 5) rfl ?_
  refine z_fini (w' := fun (_ : Unit) => []) (va_runV (As := [.int (xs 1), .int (xs 2), .int (xs 3), .int (xs 4), .int (xs 5)]) (rest := [.int r1]) ⟨hx, hb, hml, hown, hts⟩ (c_X9_feed_150 l dC dI cB cI cJ cZ cP cQ am H.size (xs 1) (xs 2) (xs 3) (xs 4) (xs 5)) (cwV 5 hts gT_X9_feed rfl rfl rfl (by decide +kernel) ⟨Nat.le_of_ble_eq_true rfl, Nat.le_of_ble_eq_true rfl⟩) (z_pV (ci := 9) hK hP hD zX_nil [0, 1] (by decide) rfl rfl 0 rfl) rfl rfl hl.1 rfl (lv_room (Nat.le_of_ble_eq_true rfl)) dL_law_275 ⟨Nat.le_of_ble_eq_true rfl, Nat.le_of_ble_eq_true rfl⟩) hP hD hS hA [0, 1] [] [] rfl rfl (by decide) (by decide) (fun _ => rfl) (by decide) (fun r4 u5 H locs hp6 hP hD hS => ?_)
  have hP : va_P (dC, dI) vwCl [] H := hP
  have hD : va_D (fun q : Nat => s.heap.size ≤ q) [] := hD
  refine W.widen (k := 90) (n := 14039) (by decide) (by decide) ?_
  have heq : r1 = r4 := by
    obtain rfl : r1 = 20 := hp3 <;> (obtain rfl : r4 = 20 := hp6 <;> first | rfl | (exfalso; omega))
  refine lv_icmp_eq (tgt := 1625) hx hb dL_law_278 (by decide) (fun _ => ?_) (fun c => absurd heq c)
  exact law_tail C0 hS (by decide) (by decide) (lv_sub hl [0, 1, 2, 3] rfl)
set_option maxHeartbeats 4000000 in
set_option maxRecDepth 100000 in
theorem law_case1 {p : Program} {e : Env} {s : State} {m : MethodId} {below : List Frame} {meth : Method} {c : Code} {b : Nat} {xs : Nat → Int32} (l : Launch) (dC : Nat → ClassId) (dI : Nat → Nat → Nat) (cB cI cJ cZ cP cQ : ClassId) (ad am : Nat → Nat) (C0 : lw_At p s m meth c b 6 xs) (H : Heap) (locs : List Loc) (hK : va_K (dC, dI) vwCl (zT cB cI cJ cZ cP cQ) s) (hP : va_P (dC, dI) vwCl (zxw cB cI cJ cZ cP cQ ad ++ zmw cB cI cJ cZ cP cQ am) H) (hD : va_D (fun q : Nat => s.heap.size ≤ q) (zxw cB cI cJ cZ cP cQ ad ++ zmw cB cI cJ cZ cP cQ am)) (hS : va_S (fun q : Nat => s.heap.size ≤ q) s.heap H locs) (hX : zX [(RX1, 44, yX8_thousandths, "MonthPush"), (RX2, 18, yX5_init, "MonthPush"), (RX8, 380, yX2_init, "MonthPush")] [] s) (ls : Array Slot) (hl : lv_has ls 4 [(3, .int 0), (2, .ref (am 0)), (1, .ref (ad 0)), (0, .ref b)]) : W p l e room_1 s m #[Value.ref b] below meth c H locs 90 14039 (lw_Z below #[Value.ref b] s) (F0 m 283 ls []) := by
  obtain ⟨hx, hb, hr, hml, hown, hts, hXs, hbl, hlocks, hgv⟩ := id C0
  have hown : s.vm.findClass RL = some m.cls := hown
  have hA : ∀ q : Nat, s.heap.size ≤ q → (fun q : Nat => s.heap.size ≤ q) q := fun _ h => h
  have hbA : ¬ (fun q : Nat => s.heap.size ≤ q) b := Nat.not_le.mpr hbl
  refine lv_aload_n hx hb dL_law_283 rfl (lv_at hl 2 rfl) ?_
  refine lv_aload_n hx hb dL_law_284 rfl (lv_at hl 3 rfl) ?_
  refine lv_iload_n hx hb dL_law_285 rfl (lv_at hl 0 rfl) ?_
  refine lv_iconst (v := 1) hx hb dL_law_286 (by decide) ?_
  refine lv_iadd hx hb dL_law_287 ?_
  refine z_topi (y := 1) (by decide +kernel) ?_
  refine va_sld hx hb hXs hbl hbA hS (z_in (a := 1) (by decide) (by decide) (by decide)) dL_law_288 ?_
  refine z_topi (y := xs 1) rfl ?_
  refine z_fini (w' := fun (_ : Unit) => [(am 0, .inr (9, mf0 am))]) (va_runV (As := [.int (xs 1)]) (rest := []) ⟨hx, hb, hml, hown, hts⟩ (c_X8_end_16 l dC dI cB cI cJ cZ cP cQ ad H.size (xs 1)) (cwV 1 hts gT_X8_end rfl rfl rfl (by decide +kernel) ⟨Nat.le_of_ble_eq_true rfl, Nat.le_of_ble_eq_true rfl⟩) (z_pV (ci := 8) hK hP hD zX_nil [0, 1] (by decide) rfl rfl 0 rfl) rfl rfl hl.1 rfl (lv_room (Nat.le_of_ble_eq_true rfl)) dL_law_289 ⟨Nat.le_of_ble_eq_true rfl, Nat.le_of_ble_eq_true rfl⟩) hP hD hS hA [0, 1] [53] [0] rfl rfl (by decide) (by decide) (fun _ => rfl) (by decide) (fun r1 u2 H locs hp3 hP hD hS => ?_)
  have hP : va_P (dC, dI) vwCl [(am 0, .inr (9, mf0 am))] H := hP
  have hD : va_D (fun q : Nat => s.heap.size ≤ q) [(am 0, .inr (9, mf0 am))] := hD
  refine W.widen (k := 90) (n := 14039) (by decide) (by decide) ?_
  refine lv_aload_n hx hb dL_law_292 rfl (lv_at hl 1 rfl) ?_
  refine lv_aload_n hx hb dL_law_293 rfl (lv_at hl 3 rfl) ?_
  refine lv_iload_n hx hb dL_law_294 rfl (lv_at hl 0 rfl) ?_
  refine lv_iconst (v := 1) hx hb dL_law_295 (by decide) ?_
  refine lv_iadd hx hb dL_law_296 ?_
  refine z_topi (y := 1) (by decide +kernel) ?_
  refine va_sld hx hb hXs hbl hbA hS (z_in (a := 1) (by decide) (by decide) (by decide)) dL_law_297 ?_
  refine z_topi (y := xs 1) rfl ?_
  refine z_fini (w' := fun (_ : Unit) => []) (va_runV (As := [.int (xs 1)]) (rest := [.int r1]) ⟨hx, hb, hml, hown, hts⟩ (c_X9_end_152 l dC dI cB cI cJ cZ cP cQ am H.size (xs 1)) (cwV 1 hts gT_X9_end rfl rfl rfl (by decide +kernel) ⟨Nat.le_of_ble_eq_true rfl, Nat.le_of_ble_eq_true rfl⟩) (z_pV (ci := 9) hK hP hD zX_nil [0] (by decide) rfl rfl 0 rfl) rfl rfl hl.1 rfl (lv_room (Nat.le_of_ble_eq_true rfl)) dL_law_298 ⟨Nat.le_of_ble_eq_true rfl, Nat.le_of_ble_eq_true rfl⟩) hP hD hS hA [0] [] [] rfl rfl (by decide) (by decide) (fun _ => rfl) (by decide) (fun r4 u5 H locs hp6 hP hD hS => ?_)
  have hP : va_P (dC, dI) vwCl [] H := hP
  have hD : va_D (fun q : Nat => s.heap.size ≤ q) [] := hD
  refine W.widen (k := 90) (n := 14039) (by decide) (by decide) ?_
  have heq : r1 = r4 := by
    rcases hp3 with ⟨rfl, a0⟩ | ⟨rfl, a0, a1⟩ | ⟨rfl, a0, a1⟩ <;> (rcases hp6 with ⟨rfl, b0⟩ | ⟨rfl, b0, b1⟩ | ⟨rfl, b0, b1⟩ <;> first | rfl | (exfalso; omega))
  refine lv_icmp_eq (tgt := 1625) hx hb dL_law_301 (by decide) (fun _ => ?_) (fun c => absurd heq c)
  exact law_tail C0 hS (by decide) (by decide) (lv_sub hl [0, 1, 2, 3] rfl)
set_option maxHeartbeats 4000000 in
set_option maxRecDepth 100000 in
theorem law_case2 {p : Program} {e : Env} {s : State} {m : MethodId} {below : List Frame} {meth : Method} {c : Code} {b : Nat} {xs : Nat → Int32} (l : Launch) (dC : Nat → ClassId) (dI : Nat → Nat → Nat) (cB cI cJ cZ cP cQ : ClassId) (ad am : Nat → Nat) (C0 : lw_At p s m meth c b 6 xs) (H : Heap) (locs : List Loc) (hK : va_K (dC, dI) vwCl (zT cB cI cJ cZ cP cQ) s) (hP : va_P (dC, dI) vwCl (zxw cB cI cJ cZ cP cQ ad ++ zmw cB cI cJ cZ cP cQ am) H) (hD : va_D (fun q : Nat => s.heap.size ≤ q) (zxw cB cI cJ cZ cP cQ ad ++ zmw cB cI cJ cZ cP cQ am)) (hS : va_S (fun q : Nat => s.heap.size ≤ q) s.heap H locs) (hX : zX [(RX1, 44, yX8_thousandths, "MonthPush"), (RX2, 18, yX5_init, "MonthPush"), (RX8, 380, yX2_init, "MonthPush")] [] s) (ls : Array Slot) (hl : lv_has ls 4 [(3, .int 0), (2, .ref (am 0)), (1, .ref (ad 0)), (0, .ref b)]) : W p l e room_1 s m #[Value.ref b] below meth c H locs 90 14039 (lw_Z below #[Value.ref b] s) (F0 m 306 ls []) := by
  obtain ⟨hx, hb, hr, hml, hown, hts, hXs, hbl, hlocks, hgv⟩ := id C0
  have hown : s.vm.findClass RL = some m.cls := hown
  have hA : ∀ q : Nat, s.heap.size ≤ q → (fun q : Nat => s.heap.size ≤ q) q := fun _ h => h
  have hbA : ¬ (fun q : Nat => s.heap.size ≤ q) b := Nat.not_le.mpr hbl
  refine lv_aload_n hx hb dL_law_306 rfl (lv_at hl 2 rfl) ?_
  refine z_fini (w' := fun (_ : Unit) => [(am 0, .inr (9, mf0 am)), (am 6, .inl (cI, 5, .inl (fun _ => 0))), (am 7, .inl (cI, 5, .inl (fun _ => 0))), (am 8, .inl (cI, 30, .inl (fun _ => 0))), (am 9, .inl (cI, 30, .inl (fun _ => 0))), (am 10, .inl (cI, 5, .inl (fun _ => 0))), (am 11, .inl (cI, 40, .inl (fun _ => 0))), (am 12, .inl (cI, 40, .inl (fun _ => 0))), (am 13, .inl (cI, 40, .inl (fun _ => 0))), (am 14, .inl (cI, 40, .inl (fun _ => 0))), (am 15, .inl (cZ, 60, .inl (fun _ => 0))), (am 16, .inl (cI, 60, .inl (fun _ => 0))), (am 17, .inl (cZ, 5, .inl (fun _ => 0))), (am 18, .inl (cZ, 5, .inl (fun _ => 0))), (am 19, .inl (cI, 5, .inl (fun _ => 0))), (am 20, .inl (cI, 5, .inl (fun _ => 0))), (am 21, .inl (cI, 5, .inl (fun _ => 0)))]) (va_runV (As := []) (rest := []) ⟨hx, hb, hml, hown, hts⟩ (c_X8_land_20 l dC dI cB cI cJ cZ cP cQ ad H.size) (cwV 0 hts gT_X8_land rfl rfl rfl (by decide +kernel) ⟨Nat.le_of_ble_eq_true rfl, Nat.le_of_ble_eq_true rfl⟩) (z_pV (ci := 8) hK hP hD zX_nil [0, 1, 13, 20] (by decide) rfl rfl 0 rfl) rfl rfl hl.1 rfl (lv_room (Nat.le_of_ble_eq_true rfl)) dL_law_307 ⟨Nat.le_of_ble_eq_true rfl, Nat.le_of_ble_eq_true rfl⟩) hP hD hS hA [0, 1, 13, 20] [53, 59, 60, 61, 62, 63, 64, 65, 66, 67, 68, 69, 70, 71, 72, 73, 74] [0, 1, 2, 3, 4, 5, 6, 7, 8, 9, 10, 11, 12, 13, 14, 15, 16] rfl rfl (by decide) (by decide) (fun _ => rfl) (by decide) (fun r1 u2 H locs hp3 hP hD hS => ?_)
  have hP : va_P (dC, dI) vwCl [(am 0, .inr (9, mf0 am)), (am 6, .inl (cI, 5, .inl (fun _ => 0))), (am 7, .inl (cI, 5, .inl (fun _ => 0))), (am 8, .inl (cI, 30, .inl (fun _ => 0))), (am 9, .inl (cI, 30, .inl (fun _ => 0))), (am 10, .inl (cI, 5, .inl (fun _ => 0))), (am 11, .inl (cI, 40, .inl (fun _ => 0))), (am 12, .inl (cI, 40, .inl (fun _ => 0))), (am 13, .inl (cI, 40, .inl (fun _ => 0))), (am 14, .inl (cI, 40, .inl (fun _ => 0))), (am 15, .inl (cZ, 60, .inl (fun _ => 0))), (am 16, .inl (cI, 60, .inl (fun _ => 0))), (am 17, .inl (cZ, 5, .inl (fun _ => 0))), (am 18, .inl (cZ, 5, .inl (fun _ => 0))), (am 19, .inl (cI, 5, .inl (fun _ => 0))), (am 20, .inl (cI, 5, .inl (fun _ => 0))), (am 21, .inl (cI, 5, .inl (fun _ => 0)))] H := hP
  have hD : va_D (fun q : Nat => s.heap.size ≤ q) [(am 0, .inr (9, mf0 am)), (am 6, .inl (cI, 5, .inl (fun _ => 0))), (am 7, .inl (cI, 5, .inl (fun _ => 0))), (am 8, .inl (cI, 30, .inl (fun _ => 0))), (am 9, .inl (cI, 30, .inl (fun _ => 0))), (am 10, .inl (cI, 5, .inl (fun _ => 0))), (am 11, .inl (cI, 40, .inl (fun _ => 0))), (am 12, .inl (cI, 40, .inl (fun _ => 0))), (am 13, .inl (cI, 40, .inl (fun _ => 0))), (am 14, .inl (cI, 40, .inl (fun _ => 0))), (am 15, .inl (cZ, 60, .inl (fun _ => 0))), (am 16, .inl (cI, 60, .inl (fun _ => 0))), (am 17, .inl (cZ, 5, .inl (fun _ => 0))), (am 18, .inl (cZ, 5, .inl (fun _ => 0))), (am 19, .inl (cI, 5, .inl (fun _ => 0))), (am 20, .inl (cI, 5, .inl (fun _ => 0))), (am 21, .inl (cI, 5, .inl (fun _ => 0)))] := hD
  refine W.widen (k := 90) (n := 14039) (by decide) (by decide) ?_
  refine lv_aload_n hx hb dL_law_310 rfl (lv_at hl 1 rfl) ?_
  refine z_fini (w' := fun (_ : Unit) => []) (va_runV (As := []) (rest := [.int r1]) ⟨hx, hb, hml, hown, hts⟩ (c_X9_land_161 l dC dI cB cI cJ cZ cP cQ am H.size) (cwV 0 hts gT_X9_land rfl rfl rfl (by decide +kernel) ⟨Nat.le_of_ble_eq_true rfl, Nat.le_of_ble_eq_true rfl⟩) (z_pV (ci := 9) hK hP hD zX_nil [0, 1, 2, 3, 4, 5, 6, 7, 8, 9, 10, 11, 12, 13, 14, 15, 16] (by decide) rfl rfl 0 rfl) rfl rfl hl.1 rfl (lv_room (Nat.le_of_ble_eq_true rfl)) dL_law_311 ⟨Nat.le_of_ble_eq_true rfl, Nat.le_of_ble_eq_true rfl⟩) hP hD hS hA [0, 1, 2, 3, 4, 5, 6, 7, 8, 9, 10, 11, 12, 13, 14, 15, 16] [] [] rfl rfl (by decide) (by decide) (fun _ => rfl) (by decide) (fun r4 u5 H locs hp6 hP hD hS => ?_)
  have hP : va_P (dC, dI) vwCl [] H := hP
  have hD : va_D (fun q : Nat => s.heap.size ≤ q) [] := hD
  refine W.widen (k := 90) (n := 14039) (by decide) (by decide) ?_
  have heq : r1 = r4 := by
    obtain rfl : r1 = 0 := hp3 <;> (obtain rfl : r4 = 0 := hp6 <;> first | rfl | (exfalso; omega))
  refine lv_icmp_eq (tgt := 1625) hx hb dL_law_314 (by decide) (fun _ => ?_) (fun c => absurd heq c)
  exact law_tail C0 hS (by decide) (by decide) (lv_sub hl [0, 1, 2, 3] rfl)
set_option maxHeartbeats 4000000 in
set_option maxRecDepth 100000 in
theorem law_case3 {p : Program} {e : Env} {s : State} {m : MethodId} {below : List Frame} {meth : Method} {c : Code} {b : Nat} {xs : Nat → Int32} (l : Launch) (dC : Nat → ClassId) (dI : Nat → Nat → Nat) (cB cI cJ cZ cP cQ : ClassId) (ad am : Nat → Nat) (C0 : lw_At p s m meth c b 6 xs) (H : Heap) (locs : List Loc) (hK : va_K (dC, dI) vwCl (zT cB cI cJ cZ cP cQ) s) (hP : va_P (dC, dI) vwCl (zxw cB cI cJ cZ cP cQ ad ++ zmw cB cI cJ cZ cP cQ am) H) (hD : va_D (fun q : Nat => s.heap.size ≤ q) (zxw cB cI cJ cZ cP cQ ad ++ zmw cB cI cJ cZ cP cQ am)) (hS : va_S (fun q : Nat => s.heap.size ≤ q) s.heap H locs) (hX : zX [(RX1, 44, yX8_thousandths, "MonthPush"), (RX2, 18, yX5_init, "MonthPush"), (RX8, 380, yX2_init, "MonthPush")] [] s) (ls : Array Slot) (hl : lv_has ls 4 [(3, .int 0), (2, .ref (am 0)), (1, .ref (ad 0)), (0, .ref b)]) : W p l e room_1 s m #[Value.ref b] below meth c H locs 90 14039 (lw_Z below #[Value.ref b] s) (F0 m 319 ls []) := by
  obtain ⟨hx, hb, hr, hml, hown, hts, hXs, hbl, hlocks, hgv⟩ := id C0
  have hown : s.vm.findClass RL = some m.cls := hown
  have hA : ∀ q : Nat, s.heap.size ≤ q → (fun q : Nat => s.heap.size ≤ q) q := fun _ h => h
  have hbA : ¬ (fun q : Nat => s.heap.size ≤ q) b := Nat.not_le.mpr hbl
  refine lv_aload_n hx hb dL_law_319 rfl (lv_at hl 2 rfl) ?_
  refine lv_aload_n hx hb dL_law_320 rfl (lv_at hl 3 rfl) ?_
  refine lv_iload_n hx hb dL_law_321 rfl (lv_at hl 0 rfl) ?_
  refine lv_iconst (v := 1) hx hb dL_law_322 (by decide) ?_
  refine lv_iadd hx hb dL_law_323 ?_
  refine z_topi (y := 1) (by decide +kernel) ?_
  refine va_sld hx hb hXs hbl hbA hS (z_in (a := 1) (by decide) (by decide) (by decide)) dL_law_324 ?_
  refine z_topi (y := xs 1) rfl ?_
  refine z_fini (w' := fun (_ : Unit) => [(am 0, .inr (9, mf0 am))]) (va_runV (As := [.int (xs 1)]) (rest := []) ⟨hx, hb, hml, hown, hts⟩ (c_X8_fault_21 l dC dI cB cI cJ cZ cP cQ ad H.size (xs 1)) (cwV 1 hts gT_X8_fault rfl rfl rfl (by decide +kernel) ⟨Nat.le_of_ble_eq_true rfl, Nat.le_of_ble_eq_true rfl⟩) (z_pV (ci := 8) hK hP hD zX_nil [0, 1] (by decide) rfl rfl 0 rfl) rfl rfl hl.1 rfl (lv_room (Nat.le_of_ble_eq_true rfl)) dL_law_325 ⟨Nat.le_of_ble_eq_true rfl, Nat.le_of_ble_eq_true rfl⟩) hP hD hS hA [0, 1] [53] [0] rfl rfl (by decide) (by decide) (fun _ => rfl) (by decide) (fun r1 u2 H locs hp3 hP hD hS => ?_)
  have hP : va_P (dC, dI) vwCl [(am 0, .inr (9, mf0 am))] H := hP
  have hD : va_D (fun q : Nat => s.heap.size ≤ q) [(am 0, .inr (9, mf0 am))] := hD
  refine W.widen (k := 90) (n := 14039) (by decide) (by decide) ?_
  refine lv_aload_n hx hb dL_law_328 rfl (lv_at hl 1 rfl) ?_
  refine lv_aload_n hx hb dL_law_329 rfl (lv_at hl 3 rfl) ?_
  refine lv_iload_n hx hb dL_law_330 rfl (lv_at hl 0 rfl) ?_
  refine lv_iconst (v := 1) hx hb dL_law_331 (by decide) ?_
  refine lv_iadd hx hb dL_law_332 ?_
  refine z_topi (y := 1) (by decide +kernel) ?_
  refine va_sld hx hb hXs hbl hbA hS (z_in (a := 1) (by decide) (by decide) (by decide)) dL_law_333 ?_
  refine z_topi (y := xs 1) rfl ?_
  refine z_fini (w' := fun (_ : Unit) => []) (va_runV (As := [.int (xs 1)]) (rest := [.int r1]) ⟨hx, hb, hml, hown, hts⟩ (c_X9_fault_153 l dC dI cB cI cJ cZ cP cQ am H.size (xs 1)) (cwV 1 hts gT_X9_fault rfl rfl rfl (by decide +kernel) ⟨Nat.le_of_ble_eq_true rfl, Nat.le_of_ble_eq_true rfl⟩) (z_pV (ci := 9) hK hP hD zX_nil [0] (by decide) rfl rfl 0 rfl) rfl rfl hl.1 rfl (lv_room (Nat.le_of_ble_eq_true rfl)) dL_law_334 ⟨Nat.le_of_ble_eq_true rfl, Nat.le_of_ble_eq_true rfl⟩) hP hD hS hA [0] [] [] rfl rfl (by decide) (by decide) (fun _ => rfl) (by decide) (fun r4 u5 H locs hp6 hP hD hS => ?_)
  have hP : va_P (dC, dI) vwCl [] H := hP
  have hD : va_D (fun q : Nat => s.heap.size ≤ q) [] := hD
  refine W.widen (k := 90) (n := 14039) (by decide) (by decide) ?_
  have heq : r1 = r4 := by
    rcases hp3 with ⟨rfl, a0, a1⟩ | ⟨rfl, a0, a1⟩ | ⟨rfl, a0⟩ <;> (rcases hp6 with ⟨rfl, b0, b1⟩ | ⟨rfl, b0, b1⟩ | ⟨rfl, b0⟩ <;> first | rfl | (exfalso; omega))
  refine lv_icmp_eq (tgt := 1625) hx hb dL_law_337 (by decide) (fun _ => ?_) (fun c => absurd heq c)
  exact law_tail C0 hS (by decide) (by decide) (lv_sub hl [0, 1, 2, 3] rfl)
set_option maxHeartbeats 4000000 in
set_option maxRecDepth 100000 in
theorem law_case4 {p : Program} {e : Env} {s : State} {m : MethodId} {below : List Frame} {meth : Method} {c : Code} {b : Nat} {xs : Nat → Int32} (l : Launch) (dC : Nat → ClassId) (dI : Nat → Nat → Nat) (cB cI cJ cZ cP cQ : ClassId) (ad am : Nat → Nat) (C0 : lw_At p s m meth c b 6 xs) (H : Heap) (locs : List Loc) (hK : va_K (dC, dI) vwCl (zT cB cI cJ cZ cP cQ) s) (hP : va_P (dC, dI) vwCl (zxw cB cI cJ cZ cP cQ ad ++ zmw cB cI cJ cZ cP cQ am) H) (hD : va_D (fun q : Nat => s.heap.size ≤ q) (zxw cB cI cJ cZ cP cQ ad ++ zmw cB cI cJ cZ cP cQ am)) (hS : va_S (fun q : Nat => s.heap.size ≤ q) s.heap H locs) (hX : zX [(RX1, 44, yX8_thousandths, "MonthPush"), (RX2, 18, yX5_init, "MonthPush"), (RX8, 380, yX2_init, "MonthPush")] [] s) (ls : Array Slot) (hl : lv_has ls 4 [(3, .int 0), (2, .ref (am 0)), (1, .ref (ad 0)), (0, .ref b)]) : W p l e room_1 s m #[Value.ref b] below meth c H locs 90 14039 (lw_Z below #[Value.ref b] s) (F0 m 342 ls []) := by
  obtain ⟨hx, hb, hr, hml, hown, hts, hXs, hbl, hlocks, hgv⟩ := id C0
  have hown : s.vm.findClass RL = some m.cls := hown
  have hA : ∀ q : Nat, s.heap.size ≤ q → (fun q : Nat => s.heap.size ≤ q) q := fun _ h => h
  have hbA : ¬ (fun q : Nat => s.heap.size ≤ q) b := Nat.not_le.mpr hbl
  refine lv_aload_n hx hb dL_law_342 rfl (lv_at hl 2 rfl) ?_
  refine lv_aload_n hx hb dL_law_343 rfl (lv_at hl 3 rfl) ?_
  refine lv_iload_n hx hb dL_law_344 rfl (lv_at hl 0 rfl) ?_
  refine lv_iconst (v := 1) hx hb dL_law_345 (by decide) ?_
  refine lv_iadd hx hb dL_law_346 ?_
  refine z_topi (y := 1) (by decide +kernel) ?_
  refine va_sld hx hb hXs hbl hbA hS (z_in (a := 1) (by decide) (by decide) (by decide)) dL_law_347 ?_
  refine z_topi (y := xs 1) rfl ?_
  refine lv_aload_n hx hb dL_law_348 rfl (lv_at hl 3 rfl) ?_
  refine lv_iload_n hx hb dL_law_349 rfl (lv_at hl 0 rfl) ?_
  refine lv_iconst (v := 2) hx hb dL_law_350 (by decide) ?_
  refine lv_iadd hx hb dL_law_351 ?_
  refine z_topi (y := 2) (by decide +kernel) ?_
  refine va_sld hx hb hXs hbl hbA hS (z_in (a := 2) (by decide) (by decide) (by decide)) dL_law_352 ?_
  refine z_topi (y := xs 2) rfl ?_
  refine z_fini (w' := fun (_ : Unit) => [(am 0, .inr (9, mf0 am)), (am 7, .inl (cI, 5, .inl (fun _ => 0)))]) (va_runV (As := [.int (xs 1), .int (xs 2)]) (rest := []) ⟨hx, hb, hml, hown, hts⟩ (c_X8_forced_23 l dC dI cB cI cJ cZ cP cQ ad H.size (xs 1) (xs 2)) (cwV 2 hts gT_X8_forced rfl rfl rfl (by decide +kernel) ⟨Nat.le_of_ble_eq_true rfl, Nat.le_of_ble_eq_true rfl⟩) (z_pV (ci := 8) hK hP hD zX_nil [0, 3] (by decide) rfl rfl 0 rfl) rfl rfl hl.1 rfl (lv_room (Nat.le_of_ble_eq_true rfl)) dL_law_353 ⟨Nat.le_of_ble_eq_true rfl, Nat.le_of_ble_eq_true rfl⟩) hP hD hS hA [0, 3] [53, 60] [0, 1] rfl rfl (by decide) (by decide) (fun _ => rfl) (by decide) (fun r1 u2 H locs hp3 hP hD hS => ?_)
  have hP : va_P (dC, dI) vwCl [(am 0, .inr (9, mf0 am)), (am 7, .inl (cI, 5, .inl (fun _ => 0)))] H := hP
  have hD : va_D (fun q : Nat => s.heap.size ≤ q) [(am 0, .inr (9, mf0 am)), (am 7, .inl (cI, 5, .inl (fun _ => 0)))] := hD
  refine W.widen (k := 90) (n := 14039) (by decide) (by decide) ?_
  refine lv_aload_n hx hb dL_law_356 rfl (lv_at hl 1 rfl) ?_
  refine lv_aload_n hx hb dL_law_357 rfl (lv_at hl 3 rfl) ?_
  refine lv_iload_n hx hb dL_law_358 rfl (lv_at hl 0 rfl) ?_
  refine lv_iconst (v := 1) hx hb dL_law_359 (by decide) ?_
  refine lv_iadd hx hb dL_law_360 ?_
  refine z_topi (y := 1) (by decide +kernel) ?_
  refine va_sld hx hb hXs hbl hbA hS (z_in (a := 1) (by decide) (by decide) (by decide)) dL_law_361 ?_
  refine z_topi (y := xs 1) rfl ?_
  refine lv_aload_n hx hb dL_law_362 rfl (lv_at hl 3 rfl) ?_
  refine lv_iload_n hx hb dL_law_363 rfl (lv_at hl 0 rfl) ?_
  refine lv_iconst (v := 2) hx hb dL_law_364 (by decide) ?_
  refine lv_iadd hx hb dL_law_365 ?_
  refine z_topi (y := 2) (by decide +kernel) ?_
  refine va_sld hx hb hXs hbl hbA hS (z_in (a := 2) (by decide) (by decide) (by decide)) dL_law_366 ?_
  refine z_topi (y := xs 2) rfl ?_
  refine z_fini (w' := fun (_ : Unit) => []) (va_runV (As := [.int (xs 1), .int (xs 2)]) (rest := [.int r1]) ⟨hx, hb, hml, hown, hts⟩ (c_X9_forced_164 l dC dI cB cI cJ cZ cP cQ am H.size (xs 1) (xs 2)) (cwV 2 hts gT_X9_forced rfl rfl rfl (by decide +kernel) ⟨Nat.le_of_ble_eq_true rfl, Nat.le_of_ble_eq_true rfl⟩) (z_pV (ci := 9) hK hP hD zX_nil [0, 1] (by decide) rfl rfl 0 rfl) rfl rfl hl.1 rfl (lv_room (Nat.le_of_ble_eq_true rfl)) dL_law_367 ⟨Nat.le_of_ble_eq_true rfl, Nat.le_of_ble_eq_true rfl⟩) hP hD hS hA [0, 1] [] [] rfl rfl (by decide) (by decide) (fun _ => rfl) (by decide) (fun r4 u5 H locs hp6 hP hD hS => ?_)
  have hP : va_P (dC, dI) vwCl [] H := hP
  have hD : va_D (fun q : Nat => s.heap.size ≤ q) [] := hD
  refine W.widen (k := 90) (n := 14039) (by decide) (by decide) ?_
  have heq : r1 = r4 := by
    rcases hp3 with ⟨rfl, a0⟩ | ⟨rfl, a0⟩ <;> (rcases hp6 with ⟨rfl, b0⟩ | ⟨rfl, b0⟩ <;> first | rfl | (exfalso; omega))
  refine lv_icmp_eq (tgt := 1625) hx hb dL_law_370 (by decide) (fun _ => ?_) (fun c => absurd heq c)
  exact law_tail C0 hS (by decide) (by decide) (lv_sub hl [0, 1, 2, 3] rfl)
set_option maxHeartbeats 4000000 in
set_option maxRecDepth 100000 in
theorem law_case5 {p : Program} {e : Env} {s : State} {m : MethodId} {below : List Frame} {meth : Method} {c : Code} {b : Nat} {xs : Nat → Int32} (l : Launch) (dC : Nat → ClassId) (dI : Nat → Nat → Nat) (cB cI cJ cZ cP cQ : ClassId) (ad am : Nat → Nat) (C0 : lw_At p s m meth c b 6 xs) (H : Heap) (locs : List Loc) (hK : va_K (dC, dI) vwCl (zT cB cI cJ cZ cP cQ) s) (hP : va_P (dC, dI) vwCl (zxw cB cI cJ cZ cP cQ ad ++ zmw cB cI cJ cZ cP cQ am) H) (hD : va_D (fun q : Nat => s.heap.size ≤ q) (zxw cB cI cJ cZ cP cQ ad ++ zmw cB cI cJ cZ cP cQ am)) (hS : va_S (fun q : Nat => s.heap.size ≤ q) s.heap H locs) (hX : zX [(RX1, 44, yX8_thousandths, "MonthPush"), (RX2, 18, yX5_init, "MonthPush"), (RX8, 380, yX2_init, "MonthPush")] [] s) (ls : Array Slot) (hl : lv_has ls 4 [(3, .int 0), (2, .ref (am 0)), (1, .ref (ad 0)), (0, .ref b)]) : W p l e room_1 s m #[Value.ref b] below meth c H locs 90 14039 (lw_Z below #[Value.ref b] s) (F0 m 375 ls []) := by
  obtain ⟨hx, hb, hr, hml, hown, hts, hXs, hbl, hlocks, hgv⟩ := id C0
  have hown : s.vm.findClass RL = some m.cls := hown
  have hA : ∀ q : Nat, s.heap.size ≤ q → (fun q : Nat => s.heap.size ≤ q) q := fun _ h => h
  have hbA : ¬ (fun q : Nat => s.heap.size ≤ q) b := Nat.not_le.mpr hbl
  refine lv_aload_n hx hb dL_law_375 rfl (lv_at hl 2 rfl) ?_
  refine lv_aload_n hx hb dL_law_376 rfl (lv_at hl 3 rfl) ?_
  refine lv_iload_n hx hb dL_law_377 rfl (lv_at hl 0 rfl) ?_
  refine lv_iconst (v := 1) hx hb dL_law_378 (by decide) ?_
  refine lv_iadd hx hb dL_law_379 ?_
  refine z_topi (y := 1) (by decide +kernel) ?_
  refine va_sld hx hb hXs hbl hbA hS (z_in (a := 1) (by decide) (by decide) (by decide)) dL_law_380 ?_
  refine z_topi (y := xs 1) rfl ?_
  refine lv_aload_n hx hb dL_law_381 rfl (lv_at hl 3 rfl) ?_
  refine lv_iload_n hx hb dL_law_382 rfl (lv_at hl 0 rfl) ?_
  refine lv_iconst (v := 2) hx hb dL_law_383 (by decide) ?_
  refine lv_iadd hx hb dL_law_384 ?_
  refine z_topi (y := 2) (by decide +kernel) ?_
  refine va_sld hx hb hXs hbl hbA hS (z_in (a := 2) (by decide) (by decide) (by decide)) dL_law_385 ?_
  refine z_topi (y := xs 2) rfl ?_
  refine z_fini (w' := fun (_ : Unit) => [(am 0, .inr (9, mf0 am)), (am 7, .inl (cI, 5, .inl (fun _ => 0)))]) (va_runV (As := [.int (xs 1), .int (xs 2)]) (rest := []) ⟨hx, hb, hml, hown, hts⟩ (c_X8_old_24 l dC dI cB cI cJ cZ cP cQ ad H.size (xs 1) (xs 2)) (cwV 2 hts gT_X8_old rfl rfl rfl (by decide +kernel) ⟨Nat.le_of_ble_eq_true rfl, Nat.le_of_ble_eq_true rfl⟩) (z_pV (ci := 8) hK hP hD zX_nil [0, 3] (by decide) rfl rfl 0 rfl) rfl rfl hl.1 rfl (lv_room (Nat.le_of_ble_eq_true rfl)) dL_law_386 ⟨Nat.le_of_ble_eq_true rfl, Nat.le_of_ble_eq_true rfl⟩) hP hD hS hA [0, 3] [53, 60] [0, 1] rfl rfl (by decide) (by decide) (fun _ => rfl) (by decide) (fun r1 u2 H locs hp3 hP hD hS => ?_)
  have hP : va_P (dC, dI) vwCl [(am 0, .inr (9, mf0 am)), (am 7, .inl (cI, 5, .inl (fun _ => 0)))] H := hP
  have hD : va_D (fun q : Nat => s.heap.size ≤ q) [(am 0, .inr (9, mf0 am)), (am 7, .inl (cI, 5, .inl (fun _ => 0)))] := hD
  refine W.widen (k := 90) (n := 14039) (by decide) (by decide) ?_
  refine lv_aload_n hx hb dL_law_389 rfl (lv_at hl 1 rfl) ?_
  refine lv_aload_n hx hb dL_law_390 rfl (lv_at hl 3 rfl) ?_
  refine lv_iload_n hx hb dL_law_391 rfl (lv_at hl 0 rfl) ?_
  refine lv_iconst (v := 1) hx hb dL_law_392 (by decide) ?_
  refine lv_iadd hx hb dL_law_393 ?_
  refine z_topi (y := 1) (by decide +kernel) ?_
  refine va_sld hx hb hXs hbl hbA hS (z_in (a := 1) (by decide) (by decide) (by decide)) dL_law_394 ?_
  refine z_topi (y := xs 1) rfl ?_
  refine lv_aload_n hx hb dL_law_395 rfl (lv_at hl 3 rfl) ?_
  refine lv_iload_n hx hb dL_law_396 rfl (lv_at hl 0 rfl) ?_
  refine lv_iconst (v := 2) hx hb dL_law_397 (by decide) ?_
  refine lv_iadd hx hb dL_law_398 ?_
  refine z_topi (y := 2) (by decide +kernel) ?_
  refine va_sld hx hb hXs hbl hbA hS (z_in (a := 2) (by decide) (by decide) (by decide)) dL_law_399 ?_
  refine z_topi (y := xs 2) rfl ?_
  refine z_fini (w' := fun (_ : Unit) => []) (va_runV (As := [.int (xs 1), .int (xs 2)]) (rest := [.int r1]) ⟨hx, hb, hml, hown, hts⟩ (c_X9_old_165 l dC dI cB cI cJ cZ cP cQ am H.size (xs 1) (xs 2)) (cwV 2 hts gT_X9_old rfl rfl rfl (by decide +kernel) ⟨Nat.le_of_ble_eq_true rfl, Nat.le_of_ble_eq_true rfl⟩) (z_pV (ci := 9) hK hP hD zX_nil [0, 1] (by decide) rfl rfl 0 rfl) rfl rfl hl.1 rfl (lv_room (Nat.le_of_ble_eq_true rfl)) dL_law_400 ⟨Nat.le_of_ble_eq_true rfl, Nat.le_of_ble_eq_true rfl⟩) hP hD hS hA [0, 1] [] [] rfl rfl (by decide) (by decide) (fun _ => rfl) (by decide) (fun r4 u5 H locs hp6 hP hD hS => ?_)
  have hP : va_P (dC, dI) vwCl [] H := hP
  have hD : va_D (fun q : Nat => s.heap.size ≤ q) [] := hD
  refine W.widen (k := 90) (n := 14039) (by decide) (by decide) ?_
  have heq : r1 = r4 := by
    rcases hp3 with ⟨rfl, a0⟩ | ⟨rfl, a0⟩ <;> (rcases hp6 with ⟨rfl, b0⟩ | ⟨rfl, b0⟩ <;> first | rfl | (exfalso; omega))
  refine lv_icmp_eq (tgt := 1625) hx hb dL_law_403 (by decide) (fun _ => ?_) (fun c => absurd heq c)
  exact law_tail C0 hS (by decide) (by decide) (lv_sub hl [0, 1, 2, 3] rfl)
set_option maxHeartbeats 4000000 in
set_option maxRecDepth 100000 in
theorem law_case6 {p : Program} {e : Env} {s : State} {m : MethodId} {below : List Frame} {meth : Method} {c : Code} {b : Nat} {xs : Nat → Int32} (l : Launch) (dC : Nat → ClassId) (dI : Nat → Nat → Nat) (cB cI cJ cZ cP cQ : ClassId) (ad am : Nat → Nat) (C0 : lw_At p s m meth c b 6 xs) (H : Heap) (locs : List Loc) (hK : va_K (dC, dI) vwCl (zT cB cI cJ cZ cP cQ) s) (hP : va_P (dC, dI) vwCl (zxw cB cI cJ cZ cP cQ ad ++ zmw cB cI cJ cZ cP cQ am) H) (hD : va_D (fun q : Nat => s.heap.size ≤ q) (zxw cB cI cJ cZ cP cQ ad ++ zmw cB cI cJ cZ cP cQ am)) (hS : va_S (fun q : Nat => s.heap.size ≤ q) s.heap H locs) (hX : zX [(RX1, 44, yX8_thousandths, "MonthPush"), (RX2, 18, yX5_init, "MonthPush"), (RX8, 380, yX2_init, "MonthPush")] [] s) (ls : Array Slot) (hl : lv_has ls 4 [(3, .int 0), (2, .ref (am 0)), (1, .ref (ad 0)), (0, .ref b)]) : W p l e room_1 s m #[Value.ref b] below meth c H locs 90 14039 (lw_Z below #[Value.ref b] s) (F0 m 408 ls []) := by
  obtain ⟨hx, hb, hr, hml, hown, hts, hXs, hbl, hlocks, hgv⟩ := id C0
  have hown : s.vm.findClass RL = some m.cls := hown
  have hA : ∀ q : Nat, s.heap.size ≤ q → (fun q : Nat => s.heap.size ≤ q) q := fun _ h => h
  have hbA : ¬ (fun q : Nat => s.heap.size ≤ q) b := Nat.not_le.mpr hbl
  refine lv_aload_n hx hb dL_law_408 rfl (lv_at hl 2 rfl) ?_
  refine lv_aload_n hx hb dL_law_409 rfl (lv_at hl 3 rfl) ?_
  refine lv_iload_n hx hb dL_law_410 rfl (lv_at hl 0 rfl) ?_
  refine lv_iconst (v := 1) hx hb dL_law_411 (by decide) ?_
  refine lv_iadd hx hb dL_law_412 ?_
  refine z_topi (y := 1) (by decide +kernel) ?_
  refine va_sld hx hb hXs hbl hbA hS (z_in (a := 1) (by decide) (by decide) (by decide)) dL_law_413 ?_
  refine z_topi (y := xs 1) rfl ?_
  refine lv_aload_n hx hb dL_law_414 rfl (lv_at hl 3 rfl) ?_
  refine lv_iload_n hx hb dL_law_415 rfl (lv_at hl 0 rfl) ?_
  refine lv_iconst (v := 2) hx hb dL_law_416 (by decide) ?_
  refine lv_iadd hx hb dL_law_417 ?_
  refine z_topi (y := 2) (by decide +kernel) ?_
  refine va_sld hx hb hXs hbl hbA hS (z_in (a := 2) (by decide) (by decide) (by decide)) dL_law_418 ?_
  refine z_topi (y := xs 2) rfl ?_
  refine lv_aload_n hx hb dL_law_419 rfl (lv_at hl 3 rfl) ?_
  refine lv_iload_n hx hb dL_law_420 rfl (lv_at hl 0 rfl) ?_
  refine lv_iconst (v := 3) hx hb dL_law_421 (by decide) ?_
  refine lv_iadd hx hb dL_law_422 ?_
  refine z_topi (y := 3) (by decide +kernel) ?_
  refine va_sld hx hb hXs hbl hbA hS (z_in (a := 3) (by decide) (by decide) (by decide)) dL_law_423 ?_
  refine z_topi (y := xs 3) rfl ?_
  refine lv_aload_n hx hb dL_law_424 rfl (lv_at hl 3 rfl) ?_
  refine lv_iload_n hx hb dL_law_425 rfl (lv_at hl 0 rfl) ?_
  refine lv_iconst (v := 4) hx hb dL_law_426 (by decide) ?_
  refine lv_iadd hx hb dL_law_427 ?_
  refine z_topi (y := 4) (by decide +kernel) ?_
  refine va_sld hx hb hXs hbl hbA hS (z_in (a := 4) (by decide) (by decide) (by decide)) dL_law_428 ?_
  refine z_topi (y := xs 4) rfl ?_
  refine z_fini (w' := fun (_ : Unit) => [(am 0, .inr (9, mf0 am)), (am 7, .inl (cI, 5, .inl (fun _ => 0)))]) (va_runV (As := [.int (xs 1), .int (xs 2), .int (xs 3), .int (xs 4)]) (rest := []) ⟨hx, hb, hml, hown, hts⟩ (c_X8_wage_29 l dC dI cB cI cJ cZ cP cQ ad H.size (xs 1) (xs 2) (xs 3) (xs 4)) (cwV 4 hts gT_X8_wage rfl rfl rfl (by decide +kernel) ⟨Nat.le_of_ble_eq_true rfl, Nat.le_of_ble_eq_true rfl⟩) (z_pV (ci := 8) hK hP hD zX_nil [0, 3] (by decide) rfl rfl 0 rfl) rfl rfl hl.1 rfl (lv_room (Nat.le_of_ble_eq_true rfl)) dL_law_429 ⟨Nat.le_of_ble_eq_true rfl, Nat.le_of_ble_eq_true rfl⟩) hP hD hS hA [0, 3] [53, 60] [0, 1] rfl rfl (by decide) (by decide) (fun _ => rfl) (by decide) (fun r1 u2 H locs hp3 hP hD hS => ?_)
  have hP : va_P (dC, dI) vwCl [(am 0, .inr (9, mf0 am)), (am 7, .inl (cI, 5, .inl (fun _ => 0)))] H := hP
  have hD : va_D (fun q : Nat => s.heap.size ≤ q) [(am 0, .inr (9, mf0 am)), (am 7, .inl (cI, 5, .inl (fun _ => 0)))] := hD
  refine W.widen (k := 90) (n := 14039) (by decide) (by decide) ?_
  refine lv_aload_n hx hb dL_law_432 rfl (lv_at hl 1 rfl) ?_
  refine lv_aload_n hx hb dL_law_433 rfl (lv_at hl 3 rfl) ?_
  refine lv_iload_n hx hb dL_law_434 rfl (lv_at hl 0 rfl) ?_
  refine lv_iconst (v := 1) hx hb dL_law_435 (by decide) ?_
  refine lv_iadd hx hb dL_law_436 ?_
  refine z_topi (y := 1) (by decide +kernel) ?_
  refine va_sld hx hb hXs hbl hbA hS (z_in (a := 1) (by decide) (by decide) (by decide)) dL_law_437 ?_
  refine z_topi (y := xs 1) rfl ?_
  refine lv_aload_n hx hb dL_law_438 rfl (lv_at hl 3 rfl) ?_
  refine lv_iload_n hx hb dL_law_439 rfl (lv_at hl 0 rfl) ?_
  refine lv_iconst (v := 2) hx hb dL_law_440 (by decide) ?_
  refine lv_iadd hx hb dL_law_441 ?_
  refine z_topi (y := 2) (by decide +kernel) ?_
  refine va_sld hx hb hXs hbl hbA hS (z_in (a := 2) (by decide) (by decide) (by decide)) dL_law_442 ?_
  refine z_topi (y := xs 2) rfl ?_
  refine lv_aload_n hx hb dL_law_443 rfl (lv_at hl 3 rfl) ?_
  refine lv_iload_n hx hb dL_law_444 rfl (lv_at hl 0 rfl) ?_
  refine lv_iconst (v := 3) hx hb dL_law_445 (by decide) ?_
  refine lv_iadd hx hb dL_law_446 ?_
  refine z_topi (y := 3) (by decide +kernel) ?_
  refine va_sld hx hb hXs hbl hbA hS (z_in (a := 3) (by decide) (by decide) (by decide)) dL_law_447 ?_
  refine z_topi (y := xs 3) rfl ?_
  refine lv_aload_n hx hb dL_law_448 rfl (lv_at hl 3 rfl) ?_
  refine lv_iload_n hx hb dL_law_449 rfl (lv_at hl 0 rfl) ?_
  refine lv_iconst (v := 4) hx hb dL_law_450 (by decide) ?_
  refine lv_iadd hx hb dL_law_451 ?_
  refine z_topi (y := 4) (by decide +kernel) ?_
  refine va_sld hx hb hXs hbl hbA hS (z_in (a := 4) (by decide) (by decide) (by decide)) dL_law_452 ?_
  refine z_topi (y := xs 4) rfl ?_
  refine z_fini (w' := fun (_ : Unit) => []) (va_runV (As := [.int (xs 1), .int (xs 2), .int (xs 3), .int (xs 4)]) (rest := [.int r1]) ⟨hx, hb, hml, hown, hts⟩ (c_X9_wage_170 l dC dI cB cI cJ cZ cP cQ am H.size (xs 1) (xs 2) (xs 3) (xs 4)) (cwV 4 hts gT_X9_wage rfl rfl rfl (by decide +kernel) ⟨Nat.le_of_ble_eq_true rfl, Nat.le_of_ble_eq_true rfl⟩) (z_pV (ci := 9) hK hP hD zX_nil [0, 1] (by decide) rfl rfl 0 rfl) rfl rfl hl.1 rfl (lv_room (Nat.le_of_ble_eq_true rfl)) dL_law_453 ⟨Nat.le_of_ble_eq_true rfl, Nat.le_of_ble_eq_true rfl⟩) hP hD hS hA [0, 1] [] [] rfl rfl (by decide) (by decide) (fun _ => rfl) (by decide) (fun r4 u5 H locs hp6 hP hD hS => ?_)
  have hP : va_P (dC, dI) vwCl [] H := hP
  have hD : va_D (fun q : Nat => s.heap.size ≤ q) [] := hD
  refine W.widen (k := 90) (n := 14039) (by decide) (by decide) ?_
  have heq : r1 = r4 := by
    rcases hp3 with ⟨rfl, a0⟩ | ⟨rfl, a0, a1⟩ | ⟨rfl, a0, a1, a2⟩ | ⟨rfl, a0, a1, a2, a3⟩ | ⟨rfl, a0, a1, a2, a3, a4⟩ | ⟨rfl, a0, a1, a2, a3, a4, a5⟩ | ⟨rfl, a0, a1, a2, a3, a4, a5, a6⟩ | ⟨rfl, a0, a1, a2, a3, a4, a5, a6⟩ <;> (rcases hp6 with ⟨rfl, b0⟩ | ⟨rfl, b0, b1⟩ | ⟨rfl, b0, b1, b2⟩ | ⟨rfl, b0, b1, b2, b3⟩ | ⟨rfl, b0, b1, b2, b3, b4⟩ | ⟨rfl, b0, b1, b2, b3, b4, b5⟩ | ⟨rfl, b0, b1, b2, b3, b4, b5, b6⟩ | ⟨rfl, b0, b1, b2, b3, b4, b5, b6⟩ <;> first | rfl | (exfalso; omega))
  refine lv_icmp_eq (tgt := 1625) hx hb dL_law_456 (by decide) (fun _ => ?_) (fun c => absurd heq c)
  exact law_tail C0 hS (by decide) (by decide) (lv_sub hl [0, 1, 2, 3] rfl)
set_option maxHeartbeats 4000000 in
set_option maxRecDepth 100000 in
theorem law_case7 {p : Program} {e : Env} {s : State} {m : MethodId} {below : List Frame} {meth : Method} {c : Code} {b : Nat} {xs : Nat → Int32} (l : Launch) (dC : Nat → ClassId) (dI : Nat → Nat → Nat) (cB cI cJ cZ cP cQ : ClassId) (ad am : Nat → Nat) (C0 : lw_At p s m meth c b 6 xs) (H : Heap) (locs : List Loc) (hK : va_K (dC, dI) vwCl (zT cB cI cJ cZ cP cQ) s) (hP : va_P (dC, dI) vwCl (zxw cB cI cJ cZ cP cQ ad ++ zmw cB cI cJ cZ cP cQ am) H) (hD : va_D (fun q : Nat => s.heap.size ≤ q) (zxw cB cI cJ cZ cP cQ ad ++ zmw cB cI cJ cZ cP cQ am)) (hS : va_S (fun q : Nat => s.heap.size ≤ q) s.heap H locs) (hX : zX [(RX1, 44, yX8_thousandths, "MonthPush"), (RX2, 18, yX5_init, "MonthPush"), (RX8, 380, yX2_init, "MonthPush")] [] s) (ls : Array Slot) (hl : lv_has ls 4 [(3, .int 0), (2, .ref (am 0)), (1, .ref (ad 0)), (0, .ref b)]) : W p l e room_1 s m #[Value.ref b] below meth c H locs 90 14039 (lw_Z below #[Value.ref b] s) (F0 m 461 ls []) := by
  obtain ⟨hx, hb, hr, hml, hown, hts, hXs, hbl, hlocks, hgv⟩ := id C0
  have hown : s.vm.findClass RL = some m.cls := hown
  have hA : ∀ q : Nat, s.heap.size ≤ q → (fun q : Nat => s.heap.size ≤ q) q := fun _ h => h
  have hbA : ¬ (fun q : Nat => s.heap.size ≤ q) b := Nat.not_le.mpr hbl
  refine lv_aload_n hx hb dL_law_461 rfl (lv_at hl 2 rfl) ?_
  refine lv_aload_n hx hb dL_law_462 rfl (lv_at hl 3 rfl) ?_
  refine lv_iload_n hx hb dL_law_463 rfl (lv_at hl 0 rfl) ?_
  refine lv_iconst (v := 1) hx hb dL_law_464 (by decide) ?_
  refine lv_iadd hx hb dL_law_465 ?_
  refine z_topi (y := 1) (by decide +kernel) ?_
  refine va_sld hx hb hXs hbl hbA hS (z_in (a := 1) (by decide) (by decide) (by decide)) dL_law_466 ?_
  refine z_topi (y := xs 1) rfl ?_
  refine lv_aload_n hx hb dL_law_467 rfl (lv_at hl 3 rfl) ?_
  refine lv_iload_n hx hb dL_law_468 rfl (lv_at hl 0 rfl) ?_
  refine lv_iconst (v := 2) hx hb dL_law_469 (by decide) ?_
  refine lv_iadd hx hb dL_law_470 ?_
  refine z_topi (y := 2) (by decide +kernel) ?_
  refine va_sld hx hb hXs hbl hbA hS (z_in (a := 2) (by decide) (by decide) (by decide)) dL_law_471 ?_
  refine z_topi (y := xs 2) rfl ?_
  refine z_fini (w' := fun (_ : Unit) => [(am 0, .inr (9, mf0 am)), (am 7, .inl (cI, 5, .inl (fun _ => 0)))]) (va_runV (As := [.int (xs 1), .int (xs 2)]) (rest := []) ⟨hx, hb, hml, hown, hts⟩ (c_X8_draw_34 l dC dI cB cI cJ cZ cP cQ ad H.size (xs 1) (xs 2)) (cwV 2 hts gT_X8_draw rfl rfl rfl (by decide +kernel) ⟨Nat.le_of_ble_eq_true rfl, Nat.le_of_ble_eq_true rfl⟩) (z_pV (ci := 8) hK hP hD zX_nil [0, 3] (by decide) rfl rfl 0 rfl) rfl rfl hl.1 rfl (lv_room (Nat.le_of_ble_eq_true rfl)) dL_law_472 ⟨Nat.le_of_ble_eq_true rfl, Nat.le_of_ble_eq_true rfl⟩) hP hD hS hA [0, 3] [53, 60] [0, 1] rfl rfl (by decide) (by decide) (fun _ => rfl) (by decide) (fun r1 u2 H locs hp3 hP hD hS => ?_)
  have hP : va_P (dC, dI) vwCl [(am 0, .inr (9, mf0 am)), (am 7, .inl (cI, 5, .inl (fun _ => 0)))] H := hP
  have hD : va_D (fun q : Nat => s.heap.size ≤ q) [(am 0, .inr (9, mf0 am)), (am 7, .inl (cI, 5, .inl (fun _ => 0)))] := hD
  refine W.widen (k := 90) (n := 14039) (by decide) (by decide) ?_
  refine lv_aload_n hx hb dL_law_475 rfl (lv_at hl 1 rfl) ?_
  refine lv_aload_n hx hb dL_law_476 rfl (lv_at hl 3 rfl) ?_
  refine lv_iload_n hx hb dL_law_477 rfl (lv_at hl 0 rfl) ?_
  refine lv_iconst (v := 1) hx hb dL_law_478 (by decide) ?_
  refine lv_iadd hx hb dL_law_479 ?_
  refine z_topi (y := 1) (by decide +kernel) ?_
  refine va_sld hx hb hXs hbl hbA hS (z_in (a := 1) (by decide) (by decide) (by decide)) dL_law_480 ?_
  refine z_topi (y := xs 1) rfl ?_
  refine lv_aload_n hx hb dL_law_481 rfl (lv_at hl 3 rfl) ?_
  refine lv_iload_n hx hb dL_law_482 rfl (lv_at hl 0 rfl) ?_
  refine lv_iconst (v := 2) hx hb dL_law_483 (by decide) ?_
  refine lv_iadd hx hb dL_law_484 ?_
  refine z_topi (y := 2) (by decide +kernel) ?_
  refine va_sld hx hb hXs hbl hbA hS (z_in (a := 2) (by decide) (by decide) (by decide)) dL_law_485 ?_
  refine z_topi (y := xs 2) rfl ?_
  refine z_fini (w' := fun (_ : Unit) => []) (va_runV (As := [.int (xs 1), .int (xs 2)]) (rest := [.int r1]) ⟨hx, hb, hml, hown, hts⟩ (c_X9_draw_174 l dC dI cB cI cJ cZ cP cQ am H.size (xs 1) (xs 2)) (cwV 2 hts gT_X9_draw rfl rfl rfl (by decide +kernel) ⟨Nat.le_of_ble_eq_true rfl, Nat.le_of_ble_eq_true rfl⟩) (z_pV (ci := 9) hK hP hD zX_nil [0, 1] (by decide) rfl rfl 0 rfl) rfl rfl hl.1 rfl (lv_room (Nat.le_of_ble_eq_true rfl)) dL_law_486 ⟨Nat.le_of_ble_eq_true rfl, Nat.le_of_ble_eq_true rfl⟩) hP hD hS hA [0, 1] [] [] rfl rfl (by decide) (by decide) (fun _ => rfl) (by decide) (fun r4 u5 H locs hp6 hP hD hS => ?_)
  have hP : va_P (dC, dI) vwCl [] H := hP
  have hD : va_D (fun q : Nat => s.heap.size ≤ q) [] := hD
  refine W.widen (k := 90) (n := 14039) (by decide) (by decide) ?_
  have heq : r1 = r4 := by
    rcases hp3 with ⟨rfl, a0⟩ | ⟨rfl, a0, a1⟩ | ⟨rfl, a0, a1, a2⟩ | ⟨rfl, a0, a1, a2, a3⟩ | ⟨rfl, a0, a1, a2, a3⟩ <;> (rcases hp6 with ⟨rfl, b0⟩ | ⟨rfl, b0, b1⟩ | ⟨rfl, b0, b1, b2⟩ | ⟨rfl, b0, b1, b2, b3⟩ | ⟨rfl, b0, b1, b2, b3⟩ <;> first | rfl | (exfalso; omega))
  refine lv_icmp_eq (tgt := 1625) hx hb dL_law_489 (by decide) (fun _ => ?_) (fun c => absurd heq c)
  exact law_tail C0 hS (by decide) (by decide) (lv_sub hl [0, 1, 2, 3] rfl)
set_option maxHeartbeats 4000000 in
set_option maxRecDepth 100000 in
theorem law_case8 {p : Program} {e : Env} {s : State} {m : MethodId} {below : List Frame} {meth : Method} {c : Code} {b : Nat} {xs : Nat → Int32} (l : Launch) (dC : Nat → ClassId) (dI : Nat → Nat → Nat) (cB cI cJ cZ cP cQ : ClassId) (ad am : Nat → Nat) (C0 : lw_At p s m meth c b 6 xs) (H : Heap) (locs : List Loc) (hK : va_K (dC, dI) vwCl (zT cB cI cJ cZ cP cQ) s) (hP : va_P (dC, dI) vwCl (zxw cB cI cJ cZ cP cQ ad ++ zmw cB cI cJ cZ cP cQ am) H) (hD : va_D (fun q : Nat => s.heap.size ≤ q) (zxw cB cI cJ cZ cP cQ ad ++ zmw cB cI cJ cZ cP cQ am)) (hS : va_S (fun q : Nat => s.heap.size ≤ q) s.heap H locs) (hX : zX [(RX1, 44, yX8_thousandths, "MonthPush"), (RX2, 18, yX5_init, "MonthPush"), (RX8, 380, yX2_init, "MonthPush")] [] s) (ls : Array Slot) (hl : lv_has ls 4 [(3, .int 0), (2, .ref (am 0)), (1, .ref (ad 0)), (0, .ref b)]) : W p l e room_1 s m #[Value.ref b] below meth c H locs 90 14039 (lw_Z below #[Value.ref b] s) (F0 m 494 ls []) := by
  obtain ⟨hx, hb, hr, hml, hown, hts, hXs, hbl, hlocks, hgv⟩ := id C0
  have hown : s.vm.findClass RL = some m.cls := hown
  have hA : ∀ q : Nat, s.heap.size ≤ q → (fun q : Nat => s.heap.size ≤ q) q := fun _ h => h
  have hbA : ¬ (fun q : Nat => s.heap.size ≤ q) b := Nat.not_le.mpr hbl
  refine lv_aload_n hx hb dL_law_494 rfl (lv_at hl 2 rfl) ?_
  refine lv_aload_n hx hb dL_law_495 rfl (lv_at hl 3 rfl) ?_
  refine lv_iload_n hx hb dL_law_496 rfl (lv_at hl 0 rfl) ?_
  refine lv_iconst (v := 1) hx hb dL_law_497 (by decide) ?_
  refine lv_iadd hx hb dL_law_498 ?_
  refine z_topi (y := 1) (by decide +kernel) ?_
  refine va_sld hx hb hXs hbl hbA hS (z_in (a := 1) (by decide) (by decide) (by decide)) dL_law_499 ?_
  refine z_topi (y := xs 1) rfl ?_
  refine lv_aload_n hx hb dL_law_500 rfl (lv_at hl 3 rfl) ?_
  refine lv_iload_n hx hb dL_law_501 rfl (lv_at hl 0 rfl) ?_
  refine lv_iconst (v := 2) hx hb dL_law_502 (by decide) ?_
  refine lv_iadd hx hb dL_law_503 ?_
  refine z_topi (y := 2) (by decide +kernel) ?_
  refine va_sld hx hb hXs hbl hbA hS (z_in (a := 2) (by decide) (by decide) (by decide)) dL_law_504 ?_
  refine z_topi (y := xs 2) rfl ?_
  refine lv_aload_n hx hb dL_law_505 rfl (lv_at hl 3 rfl) ?_
  refine lv_iload_n hx hb dL_law_506 rfl (lv_at hl 0 rfl) ?_
  refine lv_iconst (v := 3) hx hb dL_law_507 (by decide) ?_
  refine lv_iadd hx hb dL_law_508 ?_
  refine z_topi (y := 3) (by decide +kernel) ?_
  refine va_sld hx hb hXs hbl hbA hS (z_in (a := 3) (by decide) (by decide) (by decide)) dL_law_509 ?_
  refine z_topi (y := xs 3) rfl ?_
  refine lv_aload_n hx hb dL_law_510 rfl (lv_at hl 3 rfl) ?_
  refine lv_iload_n hx hb dL_law_511 rfl (lv_at hl 0 rfl) ?_
  refine lv_iconst (v := 4) hx hb dL_law_512 (by decide) ?_
  refine lv_iadd hx hb dL_law_513 ?_
  refine z_topi (y := 4) (by decide +kernel) ?_
  refine va_sld hx hb hXs hbl hbA hS (z_in (a := 4) (by decide) (by decide) (by decide)) dL_law_514 ?_
  refine z_topi (y := xs 4) rfl ?_
  refine z_fini (w' := fun (_ : Unit) => [(am 0, .inr (9, mf0 am)), (am 7, .inl (cI, 5, .inl (fun _ => 0)))]) (va_runV (As := [.int (xs 1), .int (xs 2), .int (xs 3), .int (xs 4)]) (rest := []) ⟨hx, hb, hml, hown, hts⟩ (c_X8_sheet_36 l dC dI cB cI cJ cZ cP cQ ad H.size (xs 1) (xs 2) (xs 3) (xs 4)) (cwV 4 hts gT_X8_sheet rfl rfl rfl (by decide +kernel) ⟨Nat.le_of_ble_eq_true rfl, Nat.le_of_ble_eq_true rfl⟩) (z_pV (ci := 8) hK hP hD zX_nil [0, 3] (by decide) rfl rfl 0 rfl) rfl rfl hl.1 rfl (lv_room (Nat.le_of_ble_eq_true rfl)) dL_law_515 ⟨Nat.le_of_ble_eq_true rfl, Nat.le_of_ble_eq_true rfl⟩) hP hD hS hA [0, 3] [53, 60] [0, 1] rfl rfl (by decide) (by decide) (fun _ => rfl) (by decide) (fun r1 u2 H locs hp3 hP hD hS => ?_)
  have hP : va_P (dC, dI) vwCl [(am 0, .inr (9, mf0 am)), (am 7, .inl (cI, 5, .inl (fun _ => 0)))] H := hP
  have hD : va_D (fun q : Nat => s.heap.size ≤ q) [(am 0, .inr (9, mf0 am)), (am 7, .inl (cI, 5, .inl (fun _ => 0)))] := hD
  refine W.widen (k := 90) (n := 14039) (by decide) (by decide) ?_
  refine lv_aload_n hx hb dL_law_518 rfl (lv_at hl 1 rfl) ?_
  refine lv_aload_n hx hb dL_law_519 rfl (lv_at hl 3 rfl) ?_
  refine lv_iload_n hx hb dL_law_520 rfl (lv_at hl 0 rfl) ?_
  refine lv_iconst (v := 1) hx hb dL_law_521 (by decide) ?_
  refine lv_iadd hx hb dL_law_522 ?_
  refine z_topi (y := 1) (by decide +kernel) ?_
  refine va_sld hx hb hXs hbl hbA hS (z_in (a := 1) (by decide) (by decide) (by decide)) dL_law_523 ?_
  refine z_topi (y := xs 1) rfl ?_
  refine lv_aload_n hx hb dL_law_524 rfl (lv_at hl 3 rfl) ?_
  refine lv_iload_n hx hb dL_law_525 rfl (lv_at hl 0 rfl) ?_
  refine lv_iconst (v := 2) hx hb dL_law_526 (by decide) ?_
  refine lv_iadd hx hb dL_law_527 ?_
  refine z_topi (y := 2) (by decide +kernel) ?_
  refine va_sld hx hb hXs hbl hbA hS (z_in (a := 2) (by decide) (by decide) (by decide)) dL_law_528 ?_
  refine z_topi (y := xs 2) rfl ?_
  refine lv_aload_n hx hb dL_law_529 rfl (lv_at hl 3 rfl) ?_
  refine lv_iload_n hx hb dL_law_530 rfl (lv_at hl 0 rfl) ?_
  refine lv_iconst (v := 3) hx hb dL_law_531 (by decide) ?_
  refine lv_iadd hx hb dL_law_532 ?_
  refine z_topi (y := 3) (by decide +kernel) ?_
  refine va_sld hx hb hXs hbl hbA hS (z_in (a := 3) (by decide) (by decide) (by decide)) dL_law_533 ?_
  refine z_topi (y := xs 3) rfl ?_
  refine lv_aload_n hx hb dL_law_534 rfl (lv_at hl 3 rfl) ?_
  refine lv_iload_n hx hb dL_law_535 rfl (lv_at hl 0 rfl) ?_
  refine lv_iconst (v := 4) hx hb dL_law_536 (by decide) ?_
  refine lv_iadd hx hb dL_law_537 ?_
  refine z_topi (y := 4) (by decide +kernel) ?_
  refine va_sld hx hb hXs hbl hbA hS (z_in (a := 4) (by decide) (by decide) (by decide)) dL_law_538 ?_
  refine z_topi (y := xs 4) rfl ?_
  refine z_fini (w' := fun (_ : Unit) => []) (va_runV (As := [.int (xs 1), .int (xs 2), .int (xs 3), .int (xs 4)]) (rest := [.int r1]) ⟨hx, hb, hml, hown, hts⟩ (c_X9_sheet_176 l dC dI cB cI cJ cZ cP cQ am H.size (xs 1) (xs 2) (xs 3) (xs 4)) (cwV 4 hts gT_X9_sheet rfl rfl rfl (by decide +kernel) ⟨Nat.le_of_ble_eq_true rfl, Nat.le_of_ble_eq_true rfl⟩) (z_pV (ci := 9) hK hP hD zX_nil [0, 1] (by decide) rfl rfl 0 rfl) rfl rfl hl.1 rfl (lv_room (Nat.le_of_ble_eq_true rfl)) dL_law_539 ⟨Nat.le_of_ble_eq_true rfl, Nat.le_of_ble_eq_true rfl⟩) hP hD hS hA [0, 1] [] [] rfl rfl (by decide) (by decide) (fun _ => rfl) (by decide) (fun r4 u5 H locs hp6 hP hD hS => ?_)
  have hP : va_P (dC, dI) vwCl [] H := hP
  have hD : va_D (fun q : Nat => s.heap.size ≤ q) [] := hD
  refine W.widen (k := 90) (n := 14039) (by decide) (by decide) ?_
  have heq : r1 = r4 := by
    rcases hp3 with ⟨rfl, a0⟩ | ⟨rfl, a0⟩ <;> (rcases hp6 with ⟨rfl, b0⟩ | ⟨rfl, b0⟩ <;> first | rfl | (exfalso; omega))
  refine lv_icmp_eq (tgt := 1625) hx hb dL_law_542 (by decide) (fun _ => ?_) (fun c => absurd heq c)
  exact law_tail C0 hS (by decide) (by decide) (lv_sub hl [0, 1, 2, 3] rfl)
set_option maxHeartbeats 4000000 in
set_option maxRecDepth 100000 in
theorem law_case9 {p : Program} {e : Env} {s : State} {m : MethodId} {below : List Frame} {meth : Method} {c : Code} {b : Nat} {xs : Nat → Int32} (l : Launch) (dC : Nat → ClassId) (dI : Nat → Nat → Nat) (cB cI cJ cZ cP cQ : ClassId) (ad am : Nat → Nat) (C0 : lw_At p s m meth c b 6 xs) (H : Heap) (locs : List Loc) (hK : va_K (dC, dI) vwCl (zT cB cI cJ cZ cP cQ) s) (hP : va_P (dC, dI) vwCl (zxw cB cI cJ cZ cP cQ ad ++ zmw cB cI cJ cZ cP cQ am) H) (hD : va_D (fun q : Nat => s.heap.size ≤ q) (zxw cB cI cJ cZ cP cQ ad ++ zmw cB cI cJ cZ cP cQ am)) (hS : va_S (fun q : Nat => s.heap.size ≤ q) s.heap H locs) (hX : zX [(RX1, 44, yX8_thousandths, "MonthPush"), (RX2, 18, yX5_init, "MonthPush"), (RX8, 380, yX2_init, "MonthPush")] [] s) (ls : Array Slot) (hl : lv_has ls 4 [(3, .int 0), (2, .ref (am 0)), (1, .ref (ad 0)), (0, .ref b)]) : W p l e room_1 s m #[Value.ref b] below meth c H locs 90 14039 (lw_Z below #[Value.ref b] s) (F0 m 547 ls []) := by
  obtain ⟨hx, hb, hr, hml, hown, hts, hXs, hbl, hlocks, hgv⟩ := id C0
  have hown : s.vm.findClass RL = some m.cls := hown
  have hA : ∀ q : Nat, s.heap.size ≤ q → (fun q : Nat => s.heap.size ≤ q) q := fun _ h => h
  have hbA : ¬ (fun q : Nat => s.heap.size ≤ q) b := Nat.not_le.mpr hbl
  refine lv_aload_n hx hb dL_law_547 rfl (lv_at hl 2 rfl) ?_
  refine lv_aload_n hx hb dL_law_548 rfl (lv_at hl 3 rfl) ?_
  refine lv_iload_n hx hb dL_law_549 rfl (lv_at hl 0 rfl) ?_
  refine lv_iconst (v := 1) hx hb dL_law_550 (by decide) ?_
  refine lv_iadd hx hb dL_law_551 ?_
  refine z_topi (y := 1) (by decide +kernel) ?_
  refine va_sld hx hb hXs hbl hbA hS (z_in (a := 1) (by decide) (by decide) (by decide)) dL_law_552 ?_
  refine z_topi (y := xs 1) rfl ?_
  refine lv_aload_n hx hb dL_law_553 rfl (lv_at hl 3 rfl) ?_
  refine lv_iload_n hx hb dL_law_554 rfl (lv_at hl 0 rfl) ?_
  refine lv_iconst (v := 2) hx hb dL_law_555 (by decide) ?_
  refine lv_iadd hx hb dL_law_556 ?_
  refine z_topi (y := 2) (by decide +kernel) ?_
  refine va_sld hx hb hXs hbl hbA hS (z_in (a := 2) (by decide) (by decide) (by decide)) dL_law_557 ?_
  refine z_topi (y := xs 2) rfl ?_
  refine z_fini (w' := fun (_ : Unit) => [(am 0, .inr (9, mf0 am)), (am 25, .inl (cI, 5, .inl (fun _ => 0)))]) (va_runV (As := [.int (xs 1), .int (xs 2)]) (rest := []) ⟨hx, hb, hml, hown, hts⟩ (c_X8_told_38 l dC dI cB cI cJ cZ cP cQ ad H.size (xs 1) (xs 2)) (cwV 2 hts gT_X8_told rfl rfl rfl (by decide +kernel) ⟨Nat.le_of_ble_eq_true rfl, Nat.le_of_ble_eq_true rfl⟩) (z_pV (ci := 8) hK hP hD zX_nil [0, 23] (by decide) rfl rfl 0 rfl) rfl rfl hl.1 rfl (lv_room (Nat.le_of_ble_eq_true rfl)) dL_law_558 ⟨Nat.le_of_ble_eq_true rfl, Nat.le_of_ble_eq_true rfl⟩) hP hD hS hA [0, 23] [53, 78] [0, 1] rfl rfl (by decide) (by decide) (fun _ => rfl) (by decide) (fun r1 u2 H locs hp3 hP hD hS => ?_)
  have hP : va_P (dC, dI) vwCl [(am 0, .inr (9, mf0 am)), (am 25, .inl (cI, 5, .inl (fun _ => 0)))] H := hP
  have hD : va_D (fun q : Nat => s.heap.size ≤ q) [(am 0, .inr (9, mf0 am)), (am 25, .inl (cI, 5, .inl (fun _ => 0)))] := hD
  refine W.widen (k := 90) (n := 14039) (by decide) (by decide) ?_
  refine lv_aload_n hx hb dL_law_561 rfl (lv_at hl 1 rfl) ?_
  refine lv_aload_n hx hb dL_law_562 rfl (lv_at hl 3 rfl) ?_
  refine lv_iload_n hx hb dL_law_563 rfl (lv_at hl 0 rfl) ?_
  refine lv_iconst (v := 1) hx hb dL_law_564 (by decide) ?_
  refine lv_iadd hx hb dL_law_565 ?_
  refine z_topi (y := 1) (by decide +kernel) ?_
  refine va_sld hx hb hXs hbl hbA hS (z_in (a := 1) (by decide) (by decide) (by decide)) dL_law_566 ?_
  refine z_topi (y := xs 1) rfl ?_
  refine lv_aload_n hx hb dL_law_567 rfl (lv_at hl 3 rfl) ?_
  refine lv_iload_n hx hb dL_law_568 rfl (lv_at hl 0 rfl) ?_
  refine lv_iconst (v := 2) hx hb dL_law_569 (by decide) ?_
  refine lv_iadd hx hb dL_law_570 ?_
  refine z_topi (y := 2) (by decide +kernel) ?_
  refine va_sld hx hb hXs hbl hbA hS (z_in (a := 2) (by decide) (by decide) (by decide)) dL_law_571 ?_
  refine z_topi (y := xs 2) rfl ?_
  refine z_fini (w' := fun (_ : Unit) => []) (va_runV (As := [.int (xs 1), .int (xs 2)]) (rest := [.int r1]) ⟨hx, hb, hml, hown, hts⟩ (c_X9_told_179 l dC dI cB cI cJ cZ cP cQ am H.size (xs 1) (xs 2)) (cwV 2 hts gT_X9_told rfl rfl rfl (by decide +kernel) ⟨Nat.le_of_ble_eq_true rfl, Nat.le_of_ble_eq_true rfl⟩) (z_pV (ci := 9) hK hP hD zX_nil [0, 1] (by decide) rfl rfl 0 rfl) rfl rfl hl.1 rfl (lv_room (Nat.le_of_ble_eq_true rfl)) dL_law_572 ⟨Nat.le_of_ble_eq_true rfl, Nat.le_of_ble_eq_true rfl⟩) hP hD hS hA [0, 1] [] [] rfl rfl (by decide) (by decide) (fun _ => rfl) (by decide) (fun r4 u5 H locs hp6 hP hD hS => ?_)
  have hP : va_P (dC, dI) vwCl [] H := hP
  have hD : va_D (fun q : Nat => s.heap.size ≤ q) [] := hD
  refine W.widen (k := 90) (n := 14039) (by decide) (by decide) ?_
  have heq : r1 = r4 := by
    rcases hp3 with ⟨rfl, a0⟩ | ⟨rfl, a0⟩ <;> (rcases hp6 with ⟨rfl, b0⟩ | ⟨rfl, b0⟩ <;> first | rfl | (exfalso; omega))
  refine lv_icmp_eq (tgt := 1625) hx hb dL_law_575 (by decide) (fun _ => ?_) (fun c => absurd heq c)
  exact law_tail C0 hS (by decide) (by decide) (lv_sub hl [0, 1, 2, 3] rfl)
set_option maxHeartbeats 4000000 in
set_option maxRecDepth 100000 in
theorem law_case10 {p : Program} {e : Env} {s : State} {m : MethodId} {below : List Frame} {meth : Method} {c : Code} {b : Nat} {xs : Nat → Int32} (l : Launch) (dC : Nat → ClassId) (dI : Nat → Nat → Nat) (cB cI cJ cZ cP cQ : ClassId) (ad am : Nat → Nat) (C0 : lw_At p s m meth c b 6 xs) (H : Heap) (locs : List Loc) (hK : va_K (dC, dI) vwCl (zT cB cI cJ cZ cP cQ) s) (hP : va_P (dC, dI) vwCl (zxw cB cI cJ cZ cP cQ ad ++ zmw cB cI cJ cZ cP cQ am) H) (hD : va_D (fun q : Nat => s.heap.size ≤ q) (zxw cB cI cJ cZ cP cQ ad ++ zmw cB cI cJ cZ cP cQ am)) (hS : va_S (fun q : Nat => s.heap.size ≤ q) s.heap H locs) (hX : zX [(RX1, 44, yX8_thousandths, "MonthPush"), (RX2, 18, yX5_init, "MonthPush"), (RX8, 380, yX2_init, "MonthPush")] [] s) (ls : Array Slot) (hl : lv_has ls 4 [(3, .int 0), (2, .ref (am 0)), (1, .ref (ad 0)), (0, .ref b)]) : W p l e room_1 s m #[Value.ref b] below meth c H locs 90 14039 (lw_Z below #[Value.ref b] s) (F0 m 580 ls []) := by
  obtain ⟨hx, hb, hr, hml, hown, hts, hXs, hbl, hlocks, hgv⟩ := id C0
  have hown : s.vm.findClass RL = some m.cls := hown
  have hA : ∀ q : Nat, s.heap.size ≤ q → (fun q : Nat => s.heap.size ≤ q) q := fun _ h => h
  have hbA : ¬ (fun q : Nat => s.heap.size ≤ q) b := Nat.not_le.mpr hbl
  refine lv_aload_n hx hb dL_law_580 rfl (lv_at hl 2 rfl) ?_
  refine lv_aload_n hx hb dL_law_581 rfl (lv_at hl 3 rfl) ?_
  refine lv_iload_n hx hb dL_law_582 rfl (lv_at hl 0 rfl) ?_
  refine lv_iconst (v := 1) hx hb dL_law_583 (by decide) ?_
  refine lv_iadd hx hb dL_law_584 ?_
  refine z_topi (y := 1) (by decide +kernel) ?_
  refine va_sld hx hb hXs hbl hbA hS (z_in (a := 1) (by decide) (by decide) (by decide)) dL_law_585 ?_
  refine z_topi (y := xs 1) rfl ?_
  refine lv_aload_n hx hb dL_law_586 rfl (lv_at hl 3 rfl) ?_
  refine lv_iload_n hx hb dL_law_587 rfl (lv_at hl 0 rfl) ?_
  refine lv_iconst (v := 2) hx hb dL_law_588 (by decide) ?_
  refine lv_iadd hx hb dL_law_589 ?_
  refine z_topi (y := 2) (by decide +kernel) ?_
  refine va_sld hx hb hXs hbl hbA hS (z_in (a := 2) (by decide) (by decide) (by decide)) dL_law_590 ?_
  refine z_topi (y := xs 2) rfl ?_
  refine z_fini (w' := fun (_ : Unit) => [(am 0, .inr (9, mf0 am)), (am 25, .inl (cI, 5, .inl (fun _ => 0)))]) (va_runV (As := [.int (xs 1), .int (xs 2)]) (rest := []) ⟨hx, hb, hml, hown, hts⟩ (c_X8_would_40 l dC dI cB cI cJ cZ cP cQ ad H.size (xs 1) (xs 2)) (cwV 2 hts gT_X8_would rfl rfl rfl (by decide +kernel) ⟨Nat.le_of_ble_eq_true rfl, Nat.le_of_ble_eq_true rfl⟩) (z_pV (ci := 8) hK hP hD zX_nil [0, 23] (by decide) rfl rfl 0 rfl) rfl rfl hl.1 rfl (lv_room (Nat.le_of_ble_eq_true rfl)) dL_law_591 ⟨Nat.le_of_ble_eq_true rfl, Nat.le_of_ble_eq_true rfl⟩) hP hD hS hA [0, 23] [53, 78] [0, 1] rfl rfl (by decide) (by decide) (fun _ => rfl) (by decide) (fun r1 u2 H locs hp3 hP hD hS => ?_)
  have hP : va_P (dC, dI) vwCl [(am 0, .inr (9, mf0 am)), (am 25, .inl (cI, 5, .inl (fun _ => 0)))] H := hP
  have hD : va_D (fun q : Nat => s.heap.size ≤ q) [(am 0, .inr (9, mf0 am)), (am 25, .inl (cI, 5, .inl (fun _ => 0)))] := hD
  refine W.widen (k := 90) (n := 14039) (by decide) (by decide) ?_
  refine lv_aload_n hx hb dL_law_594 rfl (lv_at hl 1 rfl) ?_
  refine lv_aload_n hx hb dL_law_595 rfl (lv_at hl 3 rfl) ?_
  refine lv_iload_n hx hb dL_law_596 rfl (lv_at hl 0 rfl) ?_
  refine lv_iconst (v := 1) hx hb dL_law_597 (by decide) ?_
  refine lv_iadd hx hb dL_law_598 ?_
  refine z_topi (y := 1) (by decide +kernel) ?_
  refine va_sld hx hb hXs hbl hbA hS (z_in (a := 1) (by decide) (by decide) (by decide)) dL_law_599 ?_
  refine z_topi (y := xs 1) rfl ?_
  refine lv_aload_n hx hb dL_law_600 rfl (lv_at hl 3 rfl) ?_
  refine lv_iload_n hx hb dL_law_601 rfl (lv_at hl 0 rfl) ?_
  refine lv_iconst (v := 2) hx hb dL_law_602 (by decide) ?_
  refine lv_iadd hx hb dL_law_603 ?_
  refine z_topi (y := 2) (by decide +kernel) ?_
  refine va_sld hx hb hXs hbl hbA hS (z_in (a := 2) (by decide) (by decide) (by decide)) dL_law_604 ?_
  refine z_topi (y := xs 2) rfl ?_
  refine z_fini (w' := fun (_ : Unit) => []) (va_runV (As := [.int (xs 1), .int (xs 2)]) (rest := [.int r1]) ⟨hx, hb, hml, hown, hts⟩ (c_X9_would_181 l dC dI cB cI cJ cZ cP cQ am H.size (xs 1) (xs 2)) (cwV 2 hts gT_X9_would rfl rfl rfl (by decide +kernel) ⟨Nat.le_of_ble_eq_true rfl, Nat.le_of_ble_eq_true rfl⟩) (z_pV (ci := 9) hK hP hD zX_nil [0, 1] (by decide) rfl rfl 0 rfl) rfl rfl hl.1 rfl (lv_room (Nat.le_of_ble_eq_true rfl)) dL_law_605 ⟨Nat.le_of_ble_eq_true rfl, Nat.le_of_ble_eq_true rfl⟩) hP hD hS hA [0, 1] [] [] rfl rfl (by decide) (by decide) (fun _ => rfl) (by decide) (fun r4 u5 H locs hp6 hP hD hS => ?_)
  have hP : va_P (dC, dI) vwCl [] H := hP
  have hD : va_D (fun q : Nat => s.heap.size ≤ q) [] := hD
  refine W.widen (k := 90) (n := 14039) (by decide) (by decide) ?_
  have heq : r1 = r4 := by
    rcases hp3 with ⟨rfl, a0⟩ | ⟨rfl, a0⟩ <;> (rcases hp6 with ⟨rfl, b0⟩ | ⟨rfl, b0⟩ <;> first | rfl | (exfalso; omega))
  refine lv_icmp_eq (tgt := 1625) hx hb dL_law_608 (by decide) (fun _ => ?_) (fun c => absurd heq c)
  exact law_tail C0 hS (by decide) (by decide) (lv_sub hl [0, 1, 2, 3] rfl)
