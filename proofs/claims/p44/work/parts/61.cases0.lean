set_option maxHeartbeats 8000000 in
set_option maxRecDepth 100000 in
theorem law_case0 {p : Program} {e : Env} {s : State} {m : MethodId} {below : List Frame} {meth : Method} {c : Code} {b L : Nat} {xs : Nat → Int32} (l : Launch) (dC : Nat → ClassId) (dI : Nat → Nat → Nat) (cB cI cJ cZ cP cQ : ClassId) (adK adV : Nat → Nat) (q0 : Option Nat) (a1 a2 : Nat) (x3 : Int32) (C0 : lw_At p s m meth c b L xs) (hL : L ≤ 3072) (hK : va_K (dC, dI) vwCl (zT cB cI cJ cZ cP cQ) s) (hX : zX zNW zAO s) (hE : zE adK adV q0 (fun q : Nat => s.heap.size ≤ q) s s.heap) (i cells slots : Nat) (hi : x3.toInt = i) (hiL : i + 6 ≤ L) (hc : cells + 18 ≤ 600000) (hs : slots + 1522 ≤ 7302250) (ob : Nat → Int32) (w1 w2 : va_W) (I1 : IX cB cI cJ cZ cP cQ a1 ob w1) (I2 : IM cB cI cJ cZ cP cQ a2 ob w2) (H : Heap) (locs : List Loc) (hP : va_P (dC, dI) vwCl (w1 ++ w2) H) (hD : va_D (fun q : Nat => s.heap.size ≤ q) (w1 ++ w2)) (hS : va_S (fun q : Nat => s.heap.size ≤ q) s.heap H locs) (ls : Array Slot) (hl : lv_has ls 4 [(3, .int x3), (2, .ref a2), (1, .ref a1), (0, .ref b)]) (kk : ∀ (ob : Nat → Int32) (w1 w2 : va_W) (H : Heap) (locs : List Loc) (ls : Array Slot), IX cB cI cJ cZ cP cQ a1 ob w1 → IM cB cI cJ cZ cP cQ a2 ob w2 → va_P (dC, dI) vwCl (w1 ++ w2) H → va_D (fun q : Nat => s.heap.size ≤ q) (w1 ++ w2) → va_S (fun q : Nat => s.heap.size ≤ q) s.heap H locs → lv_has ls 4 [(3, .int x3), (2, .ref a2), (1, .ref a1), (0, .ref b)] → W p l e room_1 s m #[Value.ref b] below meth c H locs (cells + 18) (slots + 1522) (lw_Z below #[Value.ref b] s) (F0 m 1615 ls [])) : W p l e room_1 s m #[Value.ref b] below meth c H locs cells slots (lw_Z below #[Value.ref b] s) (F0 m 220 ls []) := by
  obtain ⟨hx, hb, hr, hml, hown, hts, hXs, hbl, hlocks, hgv⟩ := id C0
  have hown : s.vm.findClass RL = some m.cls := hown
  have hA : ∀ q : Nat, s.heap.size ≤ q → (fun q : Nat => s.heap.size ≤ q) q := fun _ h => h
  have hbA : ¬ (fun q : Nat => s.heap.size ≤ q) b := Nat.not_le.mpr hbl
  refine lv_aload_n hx hb dL_law_220 rfl (lv_at hl 2 rfl) ?_
  refine lv_aload_n hx hb dL_law_221 rfl (lv_at hl 3 rfl) ?_
  refine lv_iload_n hx hb dL_law_222 rfl (lv_at hl 0 rfl) ?_
  refine lv_iconst (v := 1) hx hb dL_law_223 (by decide) ?_
  refine lv_iadd hx hb dL_law_224 ?_
  refine lv_topi (fun r1 h2 => ?_)
  have f3 : r1.toInt = x3.toInt + 1 := z_iadd h2 rfl (show Int32.toInt 1 = 1 from by decide) (by omega) (by omega)
  refine va_sld hx hb hXs hbl hbA hS (z_in rfl (by omega) (by omega)) dL_law_225 ?_
  refine lv_topi (fun a4 h5 => ?_)
  refine lv_aload_n hx hb dL_law_226 rfl (lv_at hl 3 rfl) ?_
  refine lv_iload_n hx hb dL_law_227 rfl (lv_at hl 0 rfl) ?_
  refine lv_iconst (v := 2) hx hb dL_law_228 (by decide) ?_
  refine lv_iadd hx hb dL_law_229 ?_
  refine lv_topi (fun r6 h7 => ?_)
  have f8 : r6.toInt = x3.toInt + 2 := z_iadd h7 rfl (show Int32.toInt 2 = 2 from by decide) (by omega) (by omega)
  refine va_sld hx hb hXs hbl hbA hS (z_in rfl (by omega) (by omega)) dL_law_230 ?_
  refine lv_topi (fun a9 h10 => ?_)
  refine lv_aload_n hx hb dL_law_231 rfl (lv_at hl 3 rfl) ?_
  refine lv_iload_n hx hb dL_law_232 rfl (lv_at hl 0 rfl) ?_
  refine lv_iconst (v := 3) hx hb dL_law_233 (by decide) ?_
  refine lv_iadd hx hb dL_law_234 ?_
  refine lv_topi (fun r11 h12 => ?_)
  have f13 : r11.toInt = x3.toInt + 3 := z_iadd h12 rfl (show Int32.toInt 3 = 3 from by decide) (by omega) (by omega)
  refine va_sld hx hb hXs hbl hbA hS (z_in rfl (by omega) (by omega)) dL_law_235 ?_
  refine lv_topi (fun a14 h15 => ?_)
  refine lv_aload_n hx hb dL_law_236 rfl (lv_at hl 3 rfl) ?_
  refine lv_iload_n hx hb dL_law_237 rfl (lv_at hl 0 rfl) ?_
  refine lv_iconst (v := 4) hx hb dL_law_238 (by decide) ?_
  refine lv_iadd hx hb dL_law_239 ?_
  refine lv_topi (fun r16 h17 => ?_)
  have f18 : r16.toInt = x3.toInt + 4 := z_iadd h17 rfl (show Int32.toInt 4 = 4 from by decide) (by omega) (by omega)
  refine va_sld hx hb hXs hbl hbA hS (z_in rfl (by omega) (by omega)) dL_law_240 ?_
  refine lv_topi (fun a19 h20 => ?_)
  refine lv_aload_n hx hb dL_law_241 rfl (lv_at hl 3 rfl) ?_
  refine lv_iload_n hx hb dL_law_242 rfl (lv_at hl 0 rfl) ?_
  refine lv_iconst (v := 5) hx hb dL_law_243 (by decide) ?_
  refine lv_iadd hx hb dL_law_244 ?_
  refine lv_topi (fun r21 h22 => ?_)
  have f23 : r21.toInt = x3.toInt + 5 := z_iadd h22 rfl (show Int32.toInt 5 = 5 from by decide) (by omega) (by omega)
  refine va_sld hx hb hXs hbl hbA hS (z_in rfl (by omega) (by omega)) dL_law_245 ?_
  refine lv_topi (fun a24 h25 => ?_)
  refine f_fini (va_runV (As := [.int a4, .int a9, .int a14, .int a19, .int a24]) (rest := []) ⟨hx, hb, hml, hown, hts⟩ (q_X8_feed l dC dI cB cI cJ cZ cP cQ adK adV q0 a1 H.size ob w1 a4 a9 a14 a19 a24 I1) (cwV 5 hts gT_X8_feed rfl rfl rfl (by decide +kernel) ⟨Nat.le_of_ble_eq_true rfl, Nat.le_of_ble_eq_true rfl⟩) (f_pV (ci := 8) hE hS hA hK hP hD hX rfl (IX_recv I1)) rfl rfl hl.1 rfl (lv_room (Nat.le_of_ble_eq_true rfl)) dL_law_246 ⟨by show _ + 0 ≤ 600000; omega, by show _ + 0 ≤ 7302250; omega⟩) hP hD hS hA (fun r26 w1 H locs hp hP hD hS => ?_)
  obtain ⟨I1, h27⟩ := hp
  refine lv_pop hx hb dL_law_249 rfl ?_
  refine lv_aload_n hx hb dL_law_250 rfl (lv_at hl 1 rfl) ?_
  refine lv_aload_n hx hb dL_law_251 rfl (lv_at hl 3 rfl) ?_
  refine lv_iload_n hx hb dL_law_252 rfl (lv_at hl 0 rfl) ?_
  refine lv_iconst (v := 1) hx hb dL_law_253 (by decide) ?_
  refine lv_iadd hx hb dL_law_254 ?_
  refine lv_topi (fun r28 h29 => ?_)
  have f30 : r28.toInt = x3.toInt + 1 := z_iadd h29 rfl (show Int32.toInt 1 = 1 from by decide) (by omega) (by omega)
  refine va_sld hx hb hXs hbl hbA hS (z_in rfl (by omega) (by omega)) dL_law_255 ?_
  refine lv_topi (fun a31 h32 => ?_)
  refine lv_aload_n hx hb dL_law_256 rfl (lv_at hl 3 rfl) ?_
  refine lv_iload_n hx hb dL_law_257 rfl (lv_at hl 0 rfl) ?_
  refine lv_iconst (v := 2) hx hb dL_law_258 (by decide) ?_
  refine lv_iadd hx hb dL_law_259 ?_
  refine lv_topi (fun r33 h34 => ?_)
  have f35 : r33.toInt = x3.toInt + 2 := z_iadd h34 rfl (show Int32.toInt 2 = 2 from by decide) (by omega) (by omega)
  refine va_sld hx hb hXs hbl hbA hS (z_in rfl (by omega) (by omega)) dL_law_260 ?_
  refine lv_topi (fun a36 h37 => ?_)
  refine lv_aload_n hx hb dL_law_261 rfl (lv_at hl 3 rfl) ?_
  refine lv_iload_n hx hb dL_law_262 rfl (lv_at hl 0 rfl) ?_
  refine lv_iconst (v := 3) hx hb dL_law_263 (by decide) ?_
  refine lv_iadd hx hb dL_law_264 ?_
  refine lv_topi (fun r38 h39 => ?_)
  have f40 : r38.toInt = x3.toInt + 3 := z_iadd h39 rfl (show Int32.toInt 3 = 3 from by decide) (by omega) (by omega)
  refine va_sld hx hb hXs hbl hbA hS (z_in rfl (by omega) (by omega)) dL_law_265 ?_
  refine lv_topi (fun a41 h42 => ?_)
  refine lv_aload_n hx hb dL_law_266 rfl (lv_at hl 3 rfl) ?_
  refine lv_iload_n hx hb dL_law_267 rfl (lv_at hl 0 rfl) ?_
  refine lv_iconst (v := 4) hx hb dL_law_268 (by decide) ?_
  refine lv_iadd hx hb dL_law_269 ?_
  refine lv_topi (fun r43 h44 => ?_)
  have f45 : r43.toInt = x3.toInt + 4 := z_iadd h44 rfl (show Int32.toInt 4 = 4 from by decide) (by omega) (by omega)
  refine va_sld hx hb hXs hbl hbA hS (z_in rfl (by omega) (by omega)) dL_law_270 ?_
  refine lv_topi (fun a46 h47 => ?_)
  refine lv_aload_n hx hb dL_law_271 rfl (lv_at hl 3 rfl) ?_
  refine lv_iload_n hx hb dL_law_272 rfl (lv_at hl 0 rfl) ?_
  refine lv_iconst (v := 5) hx hb dL_law_273 (by decide) ?_
  refine lv_iadd hx hb dL_law_274 ?_
  refine lv_topi (fun r48 h49 => ?_)
  have f50 : r48.toInt = x3.toInt + 5 := z_iadd h49 rfl (show Int32.toInt 5 = 5 from by decide) (by omega) (by omega)
  refine va_sld hx hb hXs hbl hbA hS (z_in rfl (by omega) (by omega)) dL_law_275 ?_
  refine lv_topi (fun a51 h52 => ?_)
  have hP : va_P (dC, dI) vwCl (w2 ++ w1) H := f_Pm List.perm_append_comm hP
  have hD : va_D (fun q : Nat => s.heap.size ≤ q) (w2 ++ w1) := f_Dm List.perm_append_comm hD
  refine f_fini (va_runV (As := [.int a31, .int a36, .int a41, .int a46, .int a51]) (rest := []) ⟨hx, hb, hml, hown, hts⟩ (q_X9_feed l dC dI cB cI cJ cZ cP cQ adK adV q0 a2 H.size ob w2 a31 a36 a41 a46 a51 I2) (cwV 5 hts gT_X9_feed rfl rfl rfl (by decide +kernel) ⟨Nat.le_of_ble_eq_true rfl, Nat.le_of_ble_eq_true rfl⟩) (f_pV (ci := 9) hE hS hA hK hP hD hX rfl (IM_recv I2)) rfl rfl hl.1 rfl (lv_room (Nat.le_of_ble_eq_true rfl)) dL_law_276 ⟨by show _ + 0 ≤ 600000; omega, by show _ + 0 ≤ 7302250; omega⟩) hP hD hS hA (fun r53 w2 H locs hp hP hD hS => ?_)
  obtain ⟨I2, h54⟩ := hp
  have hP : va_P (dC, dI) vwCl (w1 ++ w2) H := f_Pm List.perm_append_comm hP
  have hD : va_D (fun q : Nat => s.heap.size ≤ q) (w1 ++ w2) := f_Dm List.perm_append_comm hD
  refine lv_pop hx hb dL_law_279 rfl ?_
  refine lv_goto (tgt := 1615) hx hb dL_law_280 (by decide) ?_
  refine W.widen (k := cells + 18) (n := slots + 1522) (by omega) (by omega) ?_
  exact kk ob w1 w2 H locs ls I1 I2 hP hD hS (lv_sub hl [0, 1, 2, 3] rfl)
set_option maxHeartbeats 8000000 in
set_option maxRecDepth 100000 in
theorem law_case1 {p : Program} {e : Env} {s : State} {m : MethodId} {below : List Frame} {meth : Method} {c : Code} {b L : Nat} {xs : Nat → Int32} (l : Launch) (dC : Nat → ClassId) (dI : Nat → Nat → Nat) (cB cI cJ cZ cP cQ : ClassId) (adK adV : Nat → Nat) (q0 : Option Nat) (a1 a2 : Nat) (x3 : Int32) (C0 : lw_At p s m meth c b L xs) (hL : L ≤ 3072) (hK : va_K (dC, dI) vwCl (zT cB cI cJ cZ cP cQ) s) (hX : zX zNW zAO s) (hE : zE adK adV q0 (fun q : Nat => s.heap.size ≤ q) s s.heap) (i cells slots : Nat) (hi : x3.toInt = i) (hiL : i + 6 ≤ L) (hc : cells + 18 ≤ 600000) (hs : slots + 1522 ≤ 7302250) (ob : Nat → Int32) (w1 w2 : va_W) (I1 : IX cB cI cJ cZ cP cQ a1 ob w1) (I2 : IM cB cI cJ cZ cP cQ a2 ob w2) (H : Heap) (locs : List Loc) (hP : va_P (dC, dI) vwCl (w1 ++ w2) H) (hD : va_D (fun q : Nat => s.heap.size ≤ q) (w1 ++ w2)) (hS : va_S (fun q : Nat => s.heap.size ≤ q) s.heap H locs) (ls : Array Slot) (hl : lv_has ls 4 [(3, .int x3), (2, .ref a2), (1, .ref a1), (0, .ref b)]) (kk : ∀ (ob : Nat → Int32) (w1 w2 : va_W) (H : Heap) (locs : List Loc) (ls : Array Slot), IX cB cI cJ cZ cP cQ a1 ob w1 → IM cB cI cJ cZ cP cQ a2 ob w2 → va_P (dC, dI) vwCl (w1 ++ w2) H → va_D (fun q : Nat => s.heap.size ≤ q) (w1 ++ w2) → va_S (fun q : Nat => s.heap.size ≤ q) s.heap H locs → lv_has ls 4 [(3, .int x3), (2, .ref a2), (1, .ref a1), (0, .ref b)] → W p l e room_1 s m #[Value.ref b] below meth c H locs (cells + 18) (slots + 1522) (lw_Z below #[Value.ref b] s) (F0 m 1615 ls [])) : W p l e room_1 s m #[Value.ref b] below meth c H locs cells slots (lw_Z below #[Value.ref b] s) (F0 m 283 ls []) := by
  obtain ⟨hx, hb, hr, hml, hown, hts, hXs, hbl, hlocks, hgv⟩ := id C0
  have hown : s.vm.findClass RL = some m.cls := hown
  have hA : ∀ q : Nat, s.heap.size ≤ q → (fun q : Nat => s.heap.size ≤ q) q := fun _ h => h
  have hbA : ¬ (fun q : Nat => s.heap.size ≤ q) b := Nat.not_le.mpr hbl
  refine lv_aload_n hx hb dL_law_283 rfl (lv_at hl 2 rfl) ?_
  refine lv_aload_n hx hb dL_law_284 rfl (lv_at hl 3 rfl) ?_
  refine lv_iload_n hx hb dL_law_285 rfl (lv_at hl 0 rfl) ?_
  refine lv_iconst (v := 1) hx hb dL_law_286 (by decide) ?_
  refine lv_iadd hx hb dL_law_287 ?_
  refine lv_topi (fun r1 h2 => ?_)
  have f3 : r1.toInt = x3.toInt + 1 := z_iadd h2 rfl (show Int32.toInt 1 = 1 from by decide) (by omega) (by omega)
  refine va_sld hx hb hXs hbl hbA hS (z_in rfl (by omega) (by omega)) dL_law_288 ?_
  refine lv_topi (fun a4 h5 => ?_)
  refine f_fini (va_runV (As := [.int a4]) (rest := []) ⟨hx, hb, hml, hown, hts⟩ (q_X8_end l dC dI cB cI cJ cZ cP cQ adK adV q0 a1 H.size ob w1 a4 I1) (cwV 1 hts gT_X8_end rfl rfl rfl (by decide +kernel) ⟨Nat.le_of_ble_eq_true rfl, Nat.le_of_ble_eq_true rfl⟩) (f_pV (ci := 8) hE hS hA hK hP hD hX rfl (IX_recv I1)) rfl rfl hl.1 rfl (lv_room (Nat.le_of_ble_eq_true rfl)) dL_law_289 ⟨by show _ + 0 ≤ 600000; omega, by show _ + 0 ≤ 7302250; omega⟩) hP hD hS hA (fun r6 w1 H locs hp hP hD hS => ?_)
  obtain ⟨I1, h7⟩ := hp
  refine lv_pop hx hb dL_law_292 rfl ?_
  refine lv_aload_n hx hb dL_law_293 rfl (lv_at hl 1 rfl) ?_
  refine lv_aload_n hx hb dL_law_294 rfl (lv_at hl 3 rfl) ?_
  refine lv_iload_n hx hb dL_law_295 rfl (lv_at hl 0 rfl) ?_
  refine lv_iconst (v := 1) hx hb dL_law_296 (by decide) ?_
  refine lv_iadd hx hb dL_law_297 ?_
  refine lv_topi (fun r8 h9 => ?_)
  have f10 : r8.toInt = x3.toInt + 1 := z_iadd h9 rfl (show Int32.toInt 1 = 1 from by decide) (by omega) (by omega)
  refine va_sld hx hb hXs hbl hbA hS (z_in rfl (by omega) (by omega)) dL_law_298 ?_
  refine lv_topi (fun a11 h12 => ?_)
  have hP : va_P (dC, dI) vwCl (w2 ++ w1) H := f_Pm List.perm_append_comm hP
  have hD : va_D (fun q : Nat => s.heap.size ≤ q) (w2 ++ w1) := f_Dm List.perm_append_comm hD
  refine f_fini (va_runV (As := [.int a11]) (rest := []) ⟨hx, hb, hml, hown, hts⟩ (q_X9_end l dC dI cB cI cJ cZ cP cQ adK adV q0 a2 H.size ob w2 a11 I2) (cwV 1 hts gT_X9_end rfl rfl rfl (by decide +kernel) ⟨Nat.le_of_ble_eq_true rfl, Nat.le_of_ble_eq_true rfl⟩) (f_pV (ci := 9) hE hS hA hK hP hD hX rfl (IM_recv I2)) rfl rfl hl.1 rfl (lv_room (Nat.le_of_ble_eq_true rfl)) dL_law_299 ⟨by show _ + 0 ≤ 600000; omega, by show _ + 0 ≤ 7302250; omega⟩) hP hD hS hA (fun r13 w2 H locs hp hP hD hS => ?_)
  obtain ⟨I2, h14⟩ := hp
  have hP : va_P (dC, dI) vwCl (w1 ++ w2) H := f_Pm List.perm_append_comm hP
  have hD : va_D (fun q : Nat => s.heap.size ≤ q) (w1 ++ w2) := f_Dm List.perm_append_comm hD
  refine lv_pop hx hb dL_law_302 rfl ?_
  refine lv_goto (tgt := 1615) hx hb dL_law_303 (by decide) ?_
  refine W.widen (k := cells + 18) (n := slots + 1522) (by omega) (by omega) ?_
  exact kk ob w1 w2 H locs ls I1 I2 hP hD hS (lv_sub hl [0, 1, 2, 3] rfl)
set_option maxHeartbeats 8000000 in
set_option maxRecDepth 100000 in
theorem law_case2 {p : Program} {e : Env} {s : State} {m : MethodId} {below : List Frame} {meth : Method} {c : Code} {b L : Nat} {xs : Nat → Int32} (l : Launch) (dC : Nat → ClassId) (dI : Nat → Nat → Nat) (cB cI cJ cZ cP cQ : ClassId) (adK adV : Nat → Nat) (q0 : Option Nat) (a1 a2 : Nat) (x3 : Int32) (C0 : lw_At p s m meth c b L xs) (hL : L ≤ 3072) (hK : va_K (dC, dI) vwCl (zT cB cI cJ cZ cP cQ) s) (hX : zX zNW zAO s) (hE : zE adK adV q0 (fun q : Nat => s.heap.size ≤ q) s s.heap) (i cells slots : Nat) (hi : x3.toInt = i) (hiL : i + 6 ≤ L) (hc : cells + 18 ≤ 600000) (hs : slots + 1522 ≤ 7302250) (ob : Nat → Int32) (w1 w2 : va_W) (I1 : IX cB cI cJ cZ cP cQ a1 ob w1) (I2 : IM cB cI cJ cZ cP cQ a2 ob w2) (H : Heap) (locs : List Loc) (hP : va_P (dC, dI) vwCl (w1 ++ w2) H) (hD : va_D (fun q : Nat => s.heap.size ≤ q) (w1 ++ w2)) (hS : va_S (fun q : Nat => s.heap.size ≤ q) s.heap H locs) (ls : Array Slot) (hl : lv_has ls 4 [(3, .int x3), (2, .ref a2), (1, .ref a1), (0, .ref b)]) (kk : ∀ (ob : Nat → Int32) (w1 w2 : va_W) (H : Heap) (locs : List Loc) (ls : Array Slot), IX cB cI cJ cZ cP cQ a1 ob w1 → IM cB cI cJ cZ cP cQ a2 ob w2 → va_P (dC, dI) vwCl (w1 ++ w2) H → va_D (fun q : Nat => s.heap.size ≤ q) (w1 ++ w2) → va_S (fun q : Nat => s.heap.size ≤ q) s.heap H locs → lv_has ls 4 [(3, .int x3), (2, .ref a2), (1, .ref a1), (0, .ref b)] → W p l e room_1 s m #[Value.ref b] below meth c H locs (cells + 18) (slots + 1522) (lw_Z below #[Value.ref b] s) (F0 m 1615 ls [])) : W p l e room_1 s m #[Value.ref b] below meth c H locs cells slots (lw_Z below #[Value.ref b] s) (F0 m 306 ls []) := by
  obtain ⟨hx, hb, hr, hml, hown, hts, hXs, hbl, hlocks, hgv⟩ := id C0
  have hown : s.vm.findClass RL = some m.cls := hown
  have hA : ∀ q : Nat, s.heap.size ≤ q → (fun q : Nat => s.heap.size ≤ q) q := fun _ h => h
  have hbA : ¬ (fun q : Nat => s.heap.size ≤ q) b := Nat.not_le.mpr hbl
  refine lv_aload_n hx hb dL_law_306 rfl (lv_at hl 2 rfl) ?_
  refine f_fini (va_runV (As := []) (rest := []) ⟨hx, hb, hml, hown, hts⟩ (q_X8_land l dC dI cB cI cJ cZ cP cQ adK adV q0 a1 H.size ob w1 I1) (cwV 0 hts gT_X8_land rfl rfl rfl (by decide +kernel) ⟨Nat.le_of_ble_eq_true rfl, Nat.le_of_ble_eq_true rfl⟩) (f_pV (ci := 8) hE hS hA hK hP hD hX rfl (IX_recv I1)) rfl rfl hl.1 rfl (lv_room (Nat.le_of_ble_eq_true rfl)) dL_law_307 ⟨by show _ + 0 ≤ 600000; omega, by show _ + 0 ≤ 7302250; omega⟩) hP hD hS hA (fun r1 w1 H locs hp hP hD hS => ?_)
  obtain ⟨I1, h2⟩ := hp
  refine lv_pop hx hb dL_law_310 rfl ?_
  refine lv_aload_n hx hb dL_law_311 rfl (lv_at hl 1 rfl) ?_
  have hP : va_P (dC, dI) vwCl (w2 ++ w1) H := f_Pm List.perm_append_comm hP
  have hD : va_D (fun q : Nat => s.heap.size ≤ q) (w2 ++ w1) := f_Dm List.perm_append_comm hD
  refine f_fini (va_runV (As := []) (rest := []) ⟨hx, hb, hml, hown, hts⟩ (q_X9_land l dC dI cB cI cJ cZ cP cQ adK adV q0 a2 H.size ob w2 I2) (cwV 0 hts gT_X9_land rfl rfl rfl (by decide +kernel) ⟨Nat.le_of_ble_eq_true rfl, Nat.le_of_ble_eq_true rfl⟩) (f_pV (ci := 9) hE hS hA hK hP hD hX rfl (IM_recv I2)) rfl rfl hl.1 rfl (lv_room (Nat.le_of_ble_eq_true rfl)) dL_law_312 ⟨by show _ + 0 ≤ 600000; omega, by show _ + 0 ≤ 7302250; omega⟩) hP hD hS hA (fun r3 w2 H locs hp hP hD hS => ?_)
  obtain ⟨I2, h4⟩ := hp
  have hP : va_P (dC, dI) vwCl (w1 ++ w2) H := f_Pm List.perm_append_comm hP
  have hD : va_D (fun q : Nat => s.heap.size ≤ q) (w1 ++ w2) := f_Dm List.perm_append_comm hD
  refine lv_pop hx hb dL_law_315 rfl ?_
  refine lv_goto (tgt := 1615) hx hb dL_law_316 (by decide) ?_
  refine W.widen (k := cells + 18) (n := slots + 1522) (by omega) (by omega) ?_
  exact kk ob w1 w2 H locs ls I1 I2 hP hD hS (lv_sub hl [0, 1, 2, 3] rfl)
set_option maxHeartbeats 8000000 in
set_option maxRecDepth 100000 in
theorem law_case3 {p : Program} {e : Env} {s : State} {m : MethodId} {below : List Frame} {meth : Method} {c : Code} {b L : Nat} {xs : Nat → Int32} (l : Launch) (dC : Nat → ClassId) (dI : Nat → Nat → Nat) (cB cI cJ cZ cP cQ : ClassId) (adK adV : Nat → Nat) (q0 : Option Nat) (a1 a2 : Nat) (x3 : Int32) (C0 : lw_At p s m meth c b L xs) (hL : L ≤ 3072) (hK : va_K (dC, dI) vwCl (zT cB cI cJ cZ cP cQ) s) (hX : zX zNW zAO s) (hE : zE adK adV q0 (fun q : Nat => s.heap.size ≤ q) s s.heap) (i cells slots : Nat) (hi : x3.toInt = i) (hiL : i + 6 ≤ L) (hc : cells + 18 ≤ 600000) (hs : slots + 1522 ≤ 7302250) (ob : Nat → Int32) (w1 w2 : va_W) (I1 : IX cB cI cJ cZ cP cQ a1 ob w1) (I2 : IM cB cI cJ cZ cP cQ a2 ob w2) (H : Heap) (locs : List Loc) (hP : va_P (dC, dI) vwCl (w1 ++ w2) H) (hD : va_D (fun q : Nat => s.heap.size ≤ q) (w1 ++ w2)) (hS : va_S (fun q : Nat => s.heap.size ≤ q) s.heap H locs) (ls : Array Slot) (hl : lv_has ls 4 [(3, .int x3), (2, .ref a2), (1, .ref a1), (0, .ref b)]) (kk : ∀ (ob : Nat → Int32) (w1 w2 : va_W) (H : Heap) (locs : List Loc) (ls : Array Slot), IX cB cI cJ cZ cP cQ a1 ob w1 → IM cB cI cJ cZ cP cQ a2 ob w2 → va_P (dC, dI) vwCl (w1 ++ w2) H → va_D (fun q : Nat => s.heap.size ≤ q) (w1 ++ w2) → va_S (fun q : Nat => s.heap.size ≤ q) s.heap H locs → lv_has ls 4 [(3, .int x3), (2, .ref a2), (1, .ref a1), (0, .ref b)] → W p l e room_1 s m #[Value.ref b] below meth c H locs (cells + 18) (slots + 1522) (lw_Z below #[Value.ref b] s) (F0 m 1615 ls [])) : W p l e room_1 s m #[Value.ref b] below meth c H locs cells slots (lw_Z below #[Value.ref b] s) (F0 m 319 ls []) := by
  obtain ⟨hx, hb, hr, hml, hown, hts, hXs, hbl, hlocks, hgv⟩ := id C0
  have hown : s.vm.findClass RL = some m.cls := hown
  have hA : ∀ q : Nat, s.heap.size ≤ q → (fun q : Nat => s.heap.size ≤ q) q := fun _ h => h
  have hbA : ¬ (fun q : Nat => s.heap.size ≤ q) b := Nat.not_le.mpr hbl
  refine lv_aload_n hx hb dL_law_319 rfl (lv_at hl 2 rfl) ?_
  refine lv_aload_n hx hb dL_law_320 rfl (lv_at hl 3 rfl) ?_
  refine lv_iload_n hx hb dL_law_321 rfl (lv_at hl 0 rfl) ?_
  refine lv_iconst (v := 1) hx hb dL_law_322 (by decide) ?_
  refine lv_iadd hx hb dL_law_323 ?_
  refine lv_topi (fun r1 h2 => ?_)
  have f3 : r1.toInt = x3.toInt + 1 := z_iadd h2 rfl (show Int32.toInt 1 = 1 from by decide) (by omega) (by omega)
  refine va_sld hx hb hXs hbl hbA hS (z_in rfl (by omega) (by omega)) dL_law_324 ?_
  refine lv_topi (fun a4 h5 => ?_)
  refine f_fini (va_runV (As := [.int a4]) (rest := []) ⟨hx, hb, hml, hown, hts⟩ (q_X8_fault l dC dI cB cI cJ cZ cP cQ adK adV q0 a1 H.size ob w1 a4 I1) (cwV 1 hts gT_X8_fault rfl rfl rfl (by decide +kernel) ⟨Nat.le_of_ble_eq_true rfl, Nat.le_of_ble_eq_true rfl⟩) (f_pV (ci := 8) hE hS hA hK hP hD hX rfl (IX_recv I1)) rfl rfl hl.1 rfl (lv_room (Nat.le_of_ble_eq_true rfl)) dL_law_325 ⟨by show _ + 0 ≤ 600000; omega, by show _ + 0 ≤ 7302250; omega⟩) hP hD hS hA (fun r6 w1 H locs hp hP hD hS => ?_)
  obtain ⟨I1, h7⟩ := hp
  refine lv_pop hx hb dL_law_328 rfl ?_
  refine lv_aload_n hx hb dL_law_329 rfl (lv_at hl 1 rfl) ?_
  refine lv_aload_n hx hb dL_law_330 rfl (lv_at hl 3 rfl) ?_
  refine lv_iload_n hx hb dL_law_331 rfl (lv_at hl 0 rfl) ?_
  refine lv_iconst (v := 1) hx hb dL_law_332 (by decide) ?_
  refine lv_iadd hx hb dL_law_333 ?_
  refine lv_topi (fun r8 h9 => ?_)
  have f10 : r8.toInt = x3.toInt + 1 := z_iadd h9 rfl (show Int32.toInt 1 = 1 from by decide) (by omega) (by omega)
  refine va_sld hx hb hXs hbl hbA hS (z_in rfl (by omega) (by omega)) dL_law_334 ?_
  refine lv_topi (fun a11 h12 => ?_)
  have hP : va_P (dC, dI) vwCl (w2 ++ w1) H := f_Pm List.perm_append_comm hP
  have hD : va_D (fun q : Nat => s.heap.size ≤ q) (w2 ++ w1) := f_Dm List.perm_append_comm hD
  refine f_fini (va_runV (As := [.int a11]) (rest := []) ⟨hx, hb, hml, hown, hts⟩ (q_X9_fault l dC dI cB cI cJ cZ cP cQ adK adV q0 a2 H.size ob w2 a11 I2) (cwV 1 hts gT_X9_fault rfl rfl rfl (by decide +kernel) ⟨Nat.le_of_ble_eq_true rfl, Nat.le_of_ble_eq_true rfl⟩) (f_pV (ci := 9) hE hS hA hK hP hD hX rfl (IM_recv I2)) rfl rfl hl.1 rfl (lv_room (Nat.le_of_ble_eq_true rfl)) dL_law_335 ⟨by show _ + 0 ≤ 600000; omega, by show _ + 0 ≤ 7302250; omega⟩) hP hD hS hA (fun r13 w2 H locs hp hP hD hS => ?_)
  obtain ⟨I2, h14⟩ := hp
  have hP : va_P (dC, dI) vwCl (w1 ++ w2) H := f_Pm List.perm_append_comm hP
  have hD : va_D (fun q : Nat => s.heap.size ≤ q) (w1 ++ w2) := f_Dm List.perm_append_comm hD
  refine lv_pop hx hb dL_law_338 rfl ?_
  refine lv_goto (tgt := 1615) hx hb dL_law_339 (by decide) ?_
  refine W.widen (k := cells + 18) (n := slots + 1522) (by omega) (by omega) ?_
  exact kk ob w1 w2 H locs ls I1 I2 hP hD hS (lv_sub hl [0, 1, 2, 3] rfl)
set_option maxHeartbeats 8000000 in
set_option maxRecDepth 100000 in
theorem law_case4 {p : Program} {e : Env} {s : State} {m : MethodId} {below : List Frame} {meth : Method} {c : Code} {b L : Nat} {xs : Nat → Int32} (l : Launch) (dC : Nat → ClassId) (dI : Nat → Nat → Nat) (cB cI cJ cZ cP cQ : ClassId) (adK adV : Nat → Nat) (q0 : Option Nat) (a1 a2 : Nat) (x3 : Int32) (C0 : lw_At p s m meth c b L xs) (hL : L ≤ 3072) (hK : va_K (dC, dI) vwCl (zT cB cI cJ cZ cP cQ) s) (hX : zX zNW zAO s) (hE : zE adK adV q0 (fun q : Nat => s.heap.size ≤ q) s s.heap) (i cells slots : Nat) (hi : x3.toInt = i) (hiL : i + 6 ≤ L) (hc : cells + 18 ≤ 600000) (hs : slots + 1522 ≤ 7302250) (ob : Nat → Int32) (w1 w2 : va_W) (I1 : IX cB cI cJ cZ cP cQ a1 ob w1) (I2 : IM cB cI cJ cZ cP cQ a2 ob w2) (H : Heap) (locs : List Loc) (hP : va_P (dC, dI) vwCl (w1 ++ w2) H) (hD : va_D (fun q : Nat => s.heap.size ≤ q) (w1 ++ w2)) (hS : va_S (fun q : Nat => s.heap.size ≤ q) s.heap H locs) (ls : Array Slot) (hl : lv_has ls 4 [(3, .int x3), (2, .ref a2), (1, .ref a1), (0, .ref b)]) (kk : ∀ (ob : Nat → Int32) (w1 w2 : va_W) (H : Heap) (locs : List Loc) (ls : Array Slot), IX cB cI cJ cZ cP cQ a1 ob w1 → IM cB cI cJ cZ cP cQ a2 ob w2 → va_P (dC, dI) vwCl (w1 ++ w2) H → va_D (fun q : Nat => s.heap.size ≤ q) (w1 ++ w2) → va_S (fun q : Nat => s.heap.size ≤ q) s.heap H locs → lv_has ls 4 [(3, .int x3), (2, .ref a2), (1, .ref a1), (0, .ref b)] → W p l e room_1 s m #[Value.ref b] below meth c H locs (cells + 18) (slots + 1522) (lw_Z below #[Value.ref b] s) (F0 m 1615 ls [])) : W p l e room_1 s m #[Value.ref b] below meth c H locs cells slots (lw_Z below #[Value.ref b] s) (F0 m 342 ls []) := by
  obtain ⟨hx, hb, hr, hml, hown, hts, hXs, hbl, hlocks, hgv⟩ := id C0
  have hown : s.vm.findClass RL = some m.cls := hown
  have hA : ∀ q : Nat, s.heap.size ≤ q → (fun q : Nat => s.heap.size ≤ q) q := fun _ h => h
  have hbA : ¬ (fun q : Nat => s.heap.size ≤ q) b := Nat.not_le.mpr hbl
  refine lv_aload_n hx hb dL_law_342 rfl (lv_at hl 2 rfl) ?_
  refine lv_aload_n hx hb dL_law_343 rfl (lv_at hl 3 rfl) ?_
  refine lv_iload_n hx hb dL_law_344 rfl (lv_at hl 0 rfl) ?_
  refine lv_iconst (v := 1) hx hb dL_law_345 (by decide) ?_
  refine lv_iadd hx hb dL_law_346 ?_
  refine lv_topi (fun r1 h2 => ?_)
  have f3 : r1.toInt = x3.toInt + 1 := z_iadd h2 rfl (show Int32.toInt 1 = 1 from by decide) (by omega) (by omega)
  refine va_sld hx hb hXs hbl hbA hS (z_in rfl (by omega) (by omega)) dL_law_347 ?_
  refine lv_topi (fun a4 h5 => ?_)
  refine lv_aload_n hx hb dL_law_348 rfl (lv_at hl 3 rfl) ?_
  refine lv_iload_n hx hb dL_law_349 rfl (lv_at hl 0 rfl) ?_
  refine lv_iconst (v := 2) hx hb dL_law_350 (by decide) ?_
  refine lv_iadd hx hb dL_law_351 ?_
  refine lv_topi (fun r6 h7 => ?_)
  have f8 : r6.toInt = x3.toInt + 2 := z_iadd h7 rfl (show Int32.toInt 2 = 2 from by decide) (by omega) (by omega)
  refine va_sld hx hb hXs hbl hbA hS (z_in rfl (by omega) (by omega)) dL_law_352 ?_
  refine lv_topi (fun a9 h10 => ?_)
  refine f_fini (va_runV (As := [.int a4, .int a9]) (rest := []) ⟨hx, hb, hml, hown, hts⟩ (q_X8_forced l dC dI cB cI cJ cZ cP cQ adK adV q0 a1 H.size ob w1 a4 a9 I1) (cwV 2 hts gT_X8_forced rfl rfl rfl (by decide +kernel) ⟨Nat.le_of_ble_eq_true rfl, Nat.le_of_ble_eq_true rfl⟩) (f_pV (ci := 8) hE hS hA hK hP hD hX rfl (IX_recv I1)) rfl rfl hl.1 rfl (lv_room (Nat.le_of_ble_eq_true rfl)) dL_law_353 ⟨by show _ + 0 ≤ 600000; omega, by show _ + 0 ≤ 7302250; omega⟩) hP hD hS hA (fun r11 w1 H locs hp hP hD hS => ?_)
  obtain ⟨I1, h12⟩ := hp
  refine lv_pop hx hb dL_law_356 rfl ?_
  refine lv_aload_n hx hb dL_law_357 rfl (lv_at hl 1 rfl) ?_
  refine lv_aload_n hx hb dL_law_358 rfl (lv_at hl 3 rfl) ?_
  refine lv_iload_n hx hb dL_law_359 rfl (lv_at hl 0 rfl) ?_
  refine lv_iconst (v := 1) hx hb dL_law_360 (by decide) ?_
  refine lv_iadd hx hb dL_law_361 ?_
  refine lv_topi (fun r13 h14 => ?_)
  have f15 : r13.toInt = x3.toInt + 1 := z_iadd h14 rfl (show Int32.toInt 1 = 1 from by decide) (by omega) (by omega)
  refine va_sld hx hb hXs hbl hbA hS (z_in rfl (by omega) (by omega)) dL_law_362 ?_
  refine lv_topi (fun a16 h17 => ?_)
  refine lv_aload_n hx hb dL_law_363 rfl (lv_at hl 3 rfl) ?_
  refine lv_iload_n hx hb dL_law_364 rfl (lv_at hl 0 rfl) ?_
  refine lv_iconst (v := 2) hx hb dL_law_365 (by decide) ?_
  refine lv_iadd hx hb dL_law_366 ?_
  refine lv_topi (fun r18 h19 => ?_)
  have f20 : r18.toInt = x3.toInt + 2 := z_iadd h19 rfl (show Int32.toInt 2 = 2 from by decide) (by omega) (by omega)
  refine va_sld hx hb hXs hbl hbA hS (z_in rfl (by omega) (by omega)) dL_law_367 ?_
  refine lv_topi (fun a21 h22 => ?_)
  have hP : va_P (dC, dI) vwCl (w2 ++ w1) H := f_Pm List.perm_append_comm hP
  have hD : va_D (fun q : Nat => s.heap.size ≤ q) (w2 ++ w1) := f_Dm List.perm_append_comm hD
  refine f_fini (va_runV (As := [.int a16, .int a21]) (rest := []) ⟨hx, hb, hml, hown, hts⟩ (q_X9_forced l dC dI cB cI cJ cZ cP cQ adK adV q0 a2 H.size ob w2 a16 a21 I2) (cwV 2 hts gT_X9_forced rfl rfl rfl (by decide +kernel) ⟨Nat.le_of_ble_eq_true rfl, Nat.le_of_ble_eq_true rfl⟩) (f_pV (ci := 9) hE hS hA hK hP hD hX rfl (IM_recv I2)) rfl rfl hl.1 rfl (lv_room (Nat.le_of_ble_eq_true rfl)) dL_law_368 ⟨by show _ + 0 ≤ 600000; omega, by show _ + 0 ≤ 7302250; omega⟩) hP hD hS hA (fun r23 w2 H locs hp hP hD hS => ?_)
  obtain ⟨I2, h24⟩ := hp
  have hP : va_P (dC, dI) vwCl (w1 ++ w2) H := f_Pm List.perm_append_comm hP
  have hD : va_D (fun q : Nat => s.heap.size ≤ q) (w1 ++ w2) := f_Dm List.perm_append_comm hD
  refine lv_pop hx hb dL_law_371 rfl ?_
  refine lv_goto (tgt := 1615) hx hb dL_law_372 (by decide) ?_
  refine W.widen (k := cells + 18) (n := slots + 1522) (by omega) (by omega) ?_
  exact kk ob w1 w2 H locs ls I1 I2 hP hD hS (lv_sub hl [0, 1, 2, 3] rfl)
set_option maxHeartbeats 8000000 in
set_option maxRecDepth 100000 in
theorem law_case5 {p : Program} {e : Env} {s : State} {m : MethodId} {below : List Frame} {meth : Method} {c : Code} {b L : Nat} {xs : Nat → Int32} (l : Launch) (dC : Nat → ClassId) (dI : Nat → Nat → Nat) (cB cI cJ cZ cP cQ : ClassId) (adK adV : Nat → Nat) (q0 : Option Nat) (a1 a2 : Nat) (x3 : Int32) (C0 : lw_At p s m meth c b L xs) (hL : L ≤ 3072) (hK : va_K (dC, dI) vwCl (zT cB cI cJ cZ cP cQ) s) (hX : zX zNW zAO s) (hE : zE adK adV q0 (fun q : Nat => s.heap.size ≤ q) s s.heap) (i cells slots : Nat) (hi : x3.toInt = i) (hiL : i + 6 ≤ L) (hc : cells + 18 ≤ 600000) (hs : slots + 1522 ≤ 7302250) (ob : Nat → Int32) (w1 w2 : va_W) (I1 : IX cB cI cJ cZ cP cQ a1 ob w1) (I2 : IM cB cI cJ cZ cP cQ a2 ob w2) (H : Heap) (locs : List Loc) (hP : va_P (dC, dI) vwCl (w1 ++ w2) H) (hD : va_D (fun q : Nat => s.heap.size ≤ q) (w1 ++ w2)) (hS : va_S (fun q : Nat => s.heap.size ≤ q) s.heap H locs) (ls : Array Slot) (hl : lv_has ls 4 [(3, .int x3), (2, .ref a2), (1, .ref a1), (0, .ref b)]) (kk : ∀ (ob : Nat → Int32) (w1 w2 : va_W) (H : Heap) (locs : List Loc) (ls : Array Slot), IX cB cI cJ cZ cP cQ a1 ob w1 → IM cB cI cJ cZ cP cQ a2 ob w2 → va_P (dC, dI) vwCl (w1 ++ w2) H → va_D (fun q : Nat => s.heap.size ≤ q) (w1 ++ w2) → va_S (fun q : Nat => s.heap.size ≤ q) s.heap H locs → lv_has ls 4 [(3, .int x3), (2, .ref a2), (1, .ref a1), (0, .ref b)] → W p l e room_1 s m #[Value.ref b] below meth c H locs (cells + 18) (slots + 1522) (lw_Z below #[Value.ref b] s) (F0 m 1615 ls [])) : W p l e room_1 s m #[Value.ref b] below meth c H locs cells slots (lw_Z below #[Value.ref b] s) (F0 m 375 ls []) := by
  obtain ⟨hx, hb, hr, hml, hown, hts, hXs, hbl, hlocks, hgv⟩ := id C0
  have hown : s.vm.findClass RL = some m.cls := hown
  have hA : ∀ q : Nat, s.heap.size ≤ q → (fun q : Nat => s.heap.size ≤ q) q := fun _ h => h
  have hbA : ¬ (fun q : Nat => s.heap.size ≤ q) b := Nat.not_le.mpr hbl
  refine lv_aload_n hx hb dL_law_375 rfl (lv_at hl 2 rfl) ?_
  refine lv_aload_n hx hb dL_law_376 rfl (lv_at hl 3 rfl) ?_
  refine lv_iload_n hx hb dL_law_377 rfl (lv_at hl 0 rfl) ?_
  refine lv_iconst (v := 1) hx hb dL_law_378 (by decide) ?_
  refine lv_iadd hx hb dL_law_379 ?_
  refine lv_topi (fun r1 h2 => ?_)
  have f3 : r1.toInt = x3.toInt + 1 := z_iadd h2 rfl (show Int32.toInt 1 = 1 from by decide) (by omega) (by omega)
  refine va_sld hx hb hXs hbl hbA hS (z_in rfl (by omega) (by omega)) dL_law_380 ?_
  refine lv_topi (fun a4 h5 => ?_)
  refine lv_aload_n hx hb dL_law_381 rfl (lv_at hl 3 rfl) ?_
  refine lv_iload_n hx hb dL_law_382 rfl (lv_at hl 0 rfl) ?_
  refine lv_iconst (v := 2) hx hb dL_law_383 (by decide) ?_
  refine lv_iadd hx hb dL_law_384 ?_
  refine lv_topi (fun r6 h7 => ?_)
  have f8 : r6.toInt = x3.toInt + 2 := z_iadd h7 rfl (show Int32.toInt 2 = 2 from by decide) (by omega) (by omega)
  refine va_sld hx hb hXs hbl hbA hS (z_in rfl (by omega) (by omega)) dL_law_385 ?_
  refine lv_topi (fun a9 h10 => ?_)
  refine f_fini (va_runV (As := [.int a4, .int a9]) (rest := []) ⟨hx, hb, hml, hown, hts⟩ (q_X8_old l dC dI cB cI cJ cZ cP cQ adK adV q0 a1 H.size ob w1 a4 a9 I1) (cwV 2 hts gT_X8_old rfl rfl rfl (by decide +kernel) ⟨Nat.le_of_ble_eq_true rfl, Nat.le_of_ble_eq_true rfl⟩) (f_pV (ci := 8) hE hS hA hK hP hD hX rfl (IX_recv I1)) rfl rfl hl.1 rfl (lv_room (Nat.le_of_ble_eq_true rfl)) dL_law_386 ⟨by show _ + 0 ≤ 600000; omega, by show _ + 0 ≤ 7302250; omega⟩) hP hD hS hA (fun r11 w1 H locs hp hP hD hS => ?_)
  obtain ⟨I1, h12⟩ := hp
  refine lv_pop hx hb dL_law_389 rfl ?_
  refine lv_aload_n hx hb dL_law_390 rfl (lv_at hl 1 rfl) ?_
  refine lv_aload_n hx hb dL_law_391 rfl (lv_at hl 3 rfl) ?_
  refine lv_iload_n hx hb dL_law_392 rfl (lv_at hl 0 rfl) ?_
  refine lv_iconst (v := 1) hx hb dL_law_393 (by decide) ?_
  refine lv_iadd hx hb dL_law_394 ?_
  refine lv_topi (fun r13 h14 => ?_)
  have f15 : r13.toInt = x3.toInt + 1 := z_iadd h14 rfl (show Int32.toInt 1 = 1 from by decide) (by omega) (by omega)
  refine va_sld hx hb hXs hbl hbA hS (z_in rfl (by omega) (by omega)) dL_law_395 ?_
  refine lv_topi (fun a16 h17 => ?_)
  refine lv_aload_n hx hb dL_law_396 rfl (lv_at hl 3 rfl) ?_
  refine lv_iload_n hx hb dL_law_397 rfl (lv_at hl 0 rfl) ?_
  refine lv_iconst (v := 2) hx hb dL_law_398 (by decide) ?_
  refine lv_iadd hx hb dL_law_399 ?_
  refine lv_topi (fun r18 h19 => ?_)
  have f20 : r18.toInt = x3.toInt + 2 := z_iadd h19 rfl (show Int32.toInt 2 = 2 from by decide) (by omega) (by omega)
  refine va_sld hx hb hXs hbl hbA hS (z_in rfl (by omega) (by omega)) dL_law_400 ?_
  refine lv_topi (fun a21 h22 => ?_)
  have hP : va_P (dC, dI) vwCl (w2 ++ w1) H := f_Pm List.perm_append_comm hP
  have hD : va_D (fun q : Nat => s.heap.size ≤ q) (w2 ++ w1) := f_Dm List.perm_append_comm hD
  refine f_fini (va_runV (As := [.int a16, .int a21]) (rest := []) ⟨hx, hb, hml, hown, hts⟩ (q_X9_old l dC dI cB cI cJ cZ cP cQ adK adV q0 a2 H.size ob w2 a16 a21 I2) (cwV 2 hts gT_X9_old rfl rfl rfl (by decide +kernel) ⟨Nat.le_of_ble_eq_true rfl, Nat.le_of_ble_eq_true rfl⟩) (f_pV (ci := 9) hE hS hA hK hP hD hX rfl (IM_recv I2)) rfl rfl hl.1 rfl (lv_room (Nat.le_of_ble_eq_true rfl)) dL_law_401 ⟨by show _ + 0 ≤ 600000; omega, by show _ + 0 ≤ 7302250; omega⟩) hP hD hS hA (fun r23 w2 H locs hp hP hD hS => ?_)
  obtain ⟨I2, h24⟩ := hp
  have hP : va_P (dC, dI) vwCl (w1 ++ w2) H := f_Pm List.perm_append_comm hP
  have hD : va_D (fun q : Nat => s.heap.size ≤ q) (w1 ++ w2) := f_Dm List.perm_append_comm hD
  refine lv_pop hx hb dL_law_404 rfl ?_
  refine lv_goto (tgt := 1615) hx hb dL_law_405 (by decide) ?_
  refine W.widen (k := cells + 18) (n := slots + 1522) (by omega) (by omega) ?_
  exact kk ob w1 w2 H locs ls I1 I2 hP hD hS (lv_sub hl [0, 1, 2, 3] rfl)
set_option maxHeartbeats 8000000 in
set_option maxRecDepth 100000 in
theorem law_case6 {p : Program} {e : Env} {s : State} {m : MethodId} {below : List Frame} {meth : Method} {c : Code} {b L : Nat} {xs : Nat → Int32} (l : Launch) (dC : Nat → ClassId) (dI : Nat → Nat → Nat) (cB cI cJ cZ cP cQ : ClassId) (adK adV : Nat → Nat) (q0 : Option Nat) (a1 a2 : Nat) (x3 : Int32) (C0 : lw_At p s m meth c b L xs) (hL : L ≤ 3072) (hK : va_K (dC, dI) vwCl (zT cB cI cJ cZ cP cQ) s) (hX : zX zNW zAO s) (hE : zE adK adV q0 (fun q : Nat => s.heap.size ≤ q) s s.heap) (i cells slots : Nat) (hi : x3.toInt = i) (hiL : i + 6 ≤ L) (hc : cells + 18 ≤ 600000) (hs : slots + 1522 ≤ 7302250) (ob : Nat → Int32) (w1 w2 : va_W) (I1 : IX cB cI cJ cZ cP cQ a1 ob w1) (I2 : IM cB cI cJ cZ cP cQ a2 ob w2) (H : Heap) (locs : List Loc) (hP : va_P (dC, dI) vwCl (w1 ++ w2) H) (hD : va_D (fun q : Nat => s.heap.size ≤ q) (w1 ++ w2)) (hS : va_S (fun q : Nat => s.heap.size ≤ q) s.heap H locs) (ls : Array Slot) (hl : lv_has ls 4 [(3, .int x3), (2, .ref a2), (1, .ref a1), (0, .ref b)]) (kk : ∀ (ob : Nat → Int32) (w1 w2 : va_W) (H : Heap) (locs : List Loc) (ls : Array Slot), IX cB cI cJ cZ cP cQ a1 ob w1 → IM cB cI cJ cZ cP cQ a2 ob w2 → va_P (dC, dI) vwCl (w1 ++ w2) H → va_D (fun q : Nat => s.heap.size ≤ q) (w1 ++ w2) → va_S (fun q : Nat => s.heap.size ≤ q) s.heap H locs → lv_has ls 4 [(3, .int x3), (2, .ref a2), (1, .ref a1), (0, .ref b)] → W p l e room_1 s m #[Value.ref b] below meth c H locs (cells + 18) (slots + 1522) (lw_Z below #[Value.ref b] s) (F0 m 1615 ls [])) : W p l e room_1 s m #[Value.ref b] below meth c H locs cells slots (lw_Z below #[Value.ref b] s) (F0 m 408 ls []) := by
  obtain ⟨hx, hb, hr, hml, hown, hts, hXs, hbl, hlocks, hgv⟩ := id C0
  have hown : s.vm.findClass RL = some m.cls := hown
  have hA : ∀ q : Nat, s.heap.size ≤ q → (fun q : Nat => s.heap.size ≤ q) q := fun _ h => h
  have hbA : ¬ (fun q : Nat => s.heap.size ≤ q) b := Nat.not_le.mpr hbl
  refine lv_aload_n hx hb dL_law_408 rfl (lv_at hl 2 rfl) ?_
  refine lv_aload_n hx hb dL_law_409 rfl (lv_at hl 3 rfl) ?_
  refine lv_iload_n hx hb dL_law_410 rfl (lv_at hl 0 rfl) ?_
  refine lv_iconst (v := 1) hx hb dL_law_411 (by decide) ?_
  refine lv_iadd hx hb dL_law_412 ?_
  refine lv_topi (fun r1 h2 => ?_)
  have f3 : r1.toInt = x3.toInt + 1 := z_iadd h2 rfl (show Int32.toInt 1 = 1 from by decide) (by omega) (by omega)
  refine va_sld hx hb hXs hbl hbA hS (z_in rfl (by omega) (by omega)) dL_law_413 ?_
  refine lv_topi (fun a4 h5 => ?_)
  refine lv_aload_n hx hb dL_law_414 rfl (lv_at hl 3 rfl) ?_
  refine lv_iload_n hx hb dL_law_415 rfl (lv_at hl 0 rfl) ?_
  refine lv_iconst (v := 2) hx hb dL_law_416 (by decide) ?_
  refine lv_iadd hx hb dL_law_417 ?_
  refine lv_topi (fun r6 h7 => ?_)
  have f8 : r6.toInt = x3.toInt + 2 := z_iadd h7 rfl (show Int32.toInt 2 = 2 from by decide) (by omega) (by omega)
  refine va_sld hx hb hXs hbl hbA hS (z_in rfl (by omega) (by omega)) dL_law_418 ?_
  refine lv_topi (fun a9 h10 => ?_)
  refine lv_aload_n hx hb dL_law_419 rfl (lv_at hl 3 rfl) ?_
  refine lv_iload_n hx hb dL_law_420 rfl (lv_at hl 0 rfl) ?_
  refine lv_iconst (v := 3) hx hb dL_law_421 (by decide) ?_
  refine lv_iadd hx hb dL_law_422 ?_
  refine lv_topi (fun r11 h12 => ?_)
  have f13 : r11.toInt = x3.toInt + 3 := z_iadd h12 rfl (show Int32.toInt 3 = 3 from by decide) (by omega) (by omega)
  refine va_sld hx hb hXs hbl hbA hS (z_in rfl (by omega) (by omega)) dL_law_423 ?_
  refine lv_topi (fun a14 h15 => ?_)
  refine lv_aload_n hx hb dL_law_424 rfl (lv_at hl 3 rfl) ?_
  refine lv_iload_n hx hb dL_law_425 rfl (lv_at hl 0 rfl) ?_
  refine lv_iconst (v := 4) hx hb dL_law_426 (by decide) ?_
  refine lv_iadd hx hb dL_law_427 ?_
  refine lv_topi (fun r16 h17 => ?_)
  have f18 : r16.toInt = x3.toInt + 4 := z_iadd h17 rfl (show Int32.toInt 4 = 4 from by decide) (by omega) (by omega)
  refine va_sld hx hb hXs hbl hbA hS (z_in rfl (by omega) (by omega)) dL_law_428 ?_
  refine lv_topi (fun a19 h20 => ?_)
  refine f_fini (va_runV (As := [.int a4, .int a9, .int a14, .int a19]) (rest := []) ⟨hx, hb, hml, hown, hts⟩ (q_X8_wage l dC dI cB cI cJ cZ cP cQ adK adV q0 a1 H.size ob w1 a4 a9 a14 a19 I1) (cwV 4 hts gT_X8_wage rfl rfl rfl (by decide +kernel) ⟨Nat.le_of_ble_eq_true rfl, Nat.le_of_ble_eq_true rfl⟩) (f_pV (ci := 8) hE hS hA hK hP hD hX rfl (IX_recv I1)) rfl rfl hl.1 rfl (lv_room (Nat.le_of_ble_eq_true rfl)) dL_law_429 ⟨by show _ + 0 ≤ 600000; omega, by show _ + 0 ≤ 7302250; omega⟩) hP hD hS hA (fun r21 w1 H locs hp hP hD hS => ?_)
  obtain ⟨I1, h22⟩ := hp
  refine lv_pop hx hb dL_law_432 rfl ?_
  refine lv_aload_n hx hb dL_law_433 rfl (lv_at hl 1 rfl) ?_
  refine lv_aload_n hx hb dL_law_434 rfl (lv_at hl 3 rfl) ?_
  refine lv_iload_n hx hb dL_law_435 rfl (lv_at hl 0 rfl) ?_
  refine lv_iconst (v := 1) hx hb dL_law_436 (by decide) ?_
  refine lv_iadd hx hb dL_law_437 ?_
  refine lv_topi (fun r23 h24 => ?_)
  have f25 : r23.toInt = x3.toInt + 1 := z_iadd h24 rfl (show Int32.toInt 1 = 1 from by decide) (by omega) (by omega)
  refine va_sld hx hb hXs hbl hbA hS (z_in rfl (by omega) (by omega)) dL_law_438 ?_
  refine lv_topi (fun a26 h27 => ?_)
  refine lv_aload_n hx hb dL_law_439 rfl (lv_at hl 3 rfl) ?_
  refine lv_iload_n hx hb dL_law_440 rfl (lv_at hl 0 rfl) ?_
  refine lv_iconst (v := 2) hx hb dL_law_441 (by decide) ?_
  refine lv_iadd hx hb dL_law_442 ?_
  refine lv_topi (fun r28 h29 => ?_)
  have f30 : r28.toInt = x3.toInt + 2 := z_iadd h29 rfl (show Int32.toInt 2 = 2 from by decide) (by omega) (by omega)
  refine va_sld hx hb hXs hbl hbA hS (z_in rfl (by omega) (by omega)) dL_law_443 ?_
  refine lv_topi (fun a31 h32 => ?_)
  refine lv_aload_n hx hb dL_law_444 rfl (lv_at hl 3 rfl) ?_
  refine lv_iload_n hx hb dL_law_445 rfl (lv_at hl 0 rfl) ?_
  refine lv_iconst (v := 3) hx hb dL_law_446 (by decide) ?_
  refine lv_iadd hx hb dL_law_447 ?_
  refine lv_topi (fun r33 h34 => ?_)
  have f35 : r33.toInt = x3.toInt + 3 := z_iadd h34 rfl (show Int32.toInt 3 = 3 from by decide) (by omega) (by omega)
  refine va_sld hx hb hXs hbl hbA hS (z_in rfl (by omega) (by omega)) dL_law_448 ?_
  refine lv_topi (fun a36 h37 => ?_)
  refine lv_aload_n hx hb dL_law_449 rfl (lv_at hl 3 rfl) ?_
  refine lv_iload_n hx hb dL_law_450 rfl (lv_at hl 0 rfl) ?_
  refine lv_iconst (v := 4) hx hb dL_law_451 (by decide) ?_
  refine lv_iadd hx hb dL_law_452 ?_
  refine lv_topi (fun r38 h39 => ?_)
  have f40 : r38.toInt = x3.toInt + 4 := z_iadd h39 rfl (show Int32.toInt 4 = 4 from by decide) (by omega) (by omega)
  refine va_sld hx hb hXs hbl hbA hS (z_in rfl (by omega) (by omega)) dL_law_453 ?_
  refine lv_topi (fun a41 h42 => ?_)
  have hP : va_P (dC, dI) vwCl (w2 ++ w1) H := f_Pm List.perm_append_comm hP
  have hD : va_D (fun q : Nat => s.heap.size ≤ q) (w2 ++ w1) := f_Dm List.perm_append_comm hD
  refine f_fini (va_runV (As := [.int a26, .int a31, .int a36, .int a41]) (rest := []) ⟨hx, hb, hml, hown, hts⟩ (q_X9_wage l dC dI cB cI cJ cZ cP cQ adK adV q0 a2 H.size ob w2 a26 a31 a36 a41 I2) (cwV 4 hts gT_X9_wage rfl rfl rfl (by decide +kernel) ⟨Nat.le_of_ble_eq_true rfl, Nat.le_of_ble_eq_true rfl⟩) (f_pV (ci := 9) hE hS hA hK hP hD hX rfl (IM_recv I2)) rfl rfl hl.1 rfl (lv_room (Nat.le_of_ble_eq_true rfl)) dL_law_454 ⟨by show _ + 0 ≤ 600000; omega, by show _ + 0 ≤ 7302250; omega⟩) hP hD hS hA (fun r43 w2 H locs hp hP hD hS => ?_)
  obtain ⟨I2, h44⟩ := hp
  have hP : va_P (dC, dI) vwCl (w1 ++ w2) H := f_Pm List.perm_append_comm hP
  have hD : va_D (fun q : Nat => s.heap.size ≤ q) (w1 ++ w2) := f_Dm List.perm_append_comm hD
  refine lv_pop hx hb dL_law_457 rfl ?_
  refine lv_goto (tgt := 1615) hx hb dL_law_458 (by decide) ?_
  refine W.widen (k := cells + 18) (n := slots + 1522) (by omega) (by omega) ?_
  exact kk ob w1 w2 H locs ls I1 I2 hP hD hS (lv_sub hl [0, 1, 2, 3] rfl)
set_option maxHeartbeats 8000000 in
set_option maxRecDepth 100000 in
theorem law_case7 {p : Program} {e : Env} {s : State} {m : MethodId} {below : List Frame} {meth : Method} {c : Code} {b L : Nat} {xs : Nat → Int32} (l : Launch) (dC : Nat → ClassId) (dI : Nat → Nat → Nat) (cB cI cJ cZ cP cQ : ClassId) (adK adV : Nat → Nat) (q0 : Option Nat) (a1 a2 : Nat) (x3 : Int32) (C0 : lw_At p s m meth c b L xs) (hL : L ≤ 3072) (hK : va_K (dC, dI) vwCl (zT cB cI cJ cZ cP cQ) s) (hX : zX zNW zAO s) (hE : zE adK adV q0 (fun q : Nat => s.heap.size ≤ q) s s.heap) (i cells slots : Nat) (hi : x3.toInt = i) (hiL : i + 6 ≤ L) (hc : cells + 18 ≤ 600000) (hs : slots + 1522 ≤ 7302250) (ob : Nat → Int32) (w1 w2 : va_W) (I1 : IX cB cI cJ cZ cP cQ a1 ob w1) (I2 : IM cB cI cJ cZ cP cQ a2 ob w2) (H : Heap) (locs : List Loc) (hP : va_P (dC, dI) vwCl (w1 ++ w2) H) (hD : va_D (fun q : Nat => s.heap.size ≤ q) (w1 ++ w2)) (hS : va_S (fun q : Nat => s.heap.size ≤ q) s.heap H locs) (ls : Array Slot) (hl : lv_has ls 4 [(3, .int x3), (2, .ref a2), (1, .ref a1), (0, .ref b)]) (kk : ∀ (ob : Nat → Int32) (w1 w2 : va_W) (H : Heap) (locs : List Loc) (ls : Array Slot), IX cB cI cJ cZ cP cQ a1 ob w1 → IM cB cI cJ cZ cP cQ a2 ob w2 → va_P (dC, dI) vwCl (w1 ++ w2) H → va_D (fun q : Nat => s.heap.size ≤ q) (w1 ++ w2) → va_S (fun q : Nat => s.heap.size ≤ q) s.heap H locs → lv_has ls 4 [(3, .int x3), (2, .ref a2), (1, .ref a1), (0, .ref b)] → W p l e room_1 s m #[Value.ref b] below meth c H locs (cells + 18) (slots + 1522) (lw_Z below #[Value.ref b] s) (F0 m 1615 ls [])) : W p l e room_1 s m #[Value.ref b] below meth c H locs cells slots (lw_Z below #[Value.ref b] s) (F0 m 461 ls []) := by
  obtain ⟨hx, hb, hr, hml, hown, hts, hXs, hbl, hlocks, hgv⟩ := id C0
  have hown : s.vm.findClass RL = some m.cls := hown
  have hA : ∀ q : Nat, s.heap.size ≤ q → (fun q : Nat => s.heap.size ≤ q) q := fun _ h => h
  have hbA : ¬ (fun q : Nat => s.heap.size ≤ q) b := Nat.not_le.mpr hbl
  refine lv_aload_n hx hb dL_law_461 rfl (lv_at hl 2 rfl) ?_
  refine lv_aload_n hx hb dL_law_462 rfl (lv_at hl 3 rfl) ?_
  refine lv_iload_n hx hb dL_law_463 rfl (lv_at hl 0 rfl) ?_
  refine lv_iconst (v := 1) hx hb dL_law_464 (by decide) ?_
  refine lv_iadd hx hb dL_law_465 ?_
  refine lv_topi (fun r1 h2 => ?_)
  have f3 : r1.toInt = x3.toInt + 1 := z_iadd h2 rfl (show Int32.toInt 1 = 1 from by decide) (by omega) (by omega)
  refine va_sld hx hb hXs hbl hbA hS (z_in rfl (by omega) (by omega)) dL_law_466 ?_
  refine lv_topi (fun a4 h5 => ?_)
  refine lv_aload_n hx hb dL_law_467 rfl (lv_at hl 3 rfl) ?_
  refine lv_iload_n hx hb dL_law_468 rfl (lv_at hl 0 rfl) ?_
  refine lv_iconst (v := 2) hx hb dL_law_469 (by decide) ?_
  refine lv_iadd hx hb dL_law_470 ?_
  refine lv_topi (fun r6 h7 => ?_)
  have f8 : r6.toInt = x3.toInt + 2 := z_iadd h7 rfl (show Int32.toInt 2 = 2 from by decide) (by omega) (by omega)
  refine va_sld hx hb hXs hbl hbA hS (z_in rfl (by omega) (by omega)) dL_law_471 ?_
  refine lv_topi (fun a9 h10 => ?_)
  refine f_fini (va_runV (As := [.int a4, .int a9]) (rest := []) ⟨hx, hb, hml, hown, hts⟩ (q_X8_draw l dC dI cB cI cJ cZ cP cQ adK adV q0 a1 H.size ob w1 a4 a9 I1) (cwV 2 hts gT_X8_draw rfl rfl rfl (by decide +kernel) ⟨Nat.le_of_ble_eq_true rfl, Nat.le_of_ble_eq_true rfl⟩) (f_pV (ci := 8) hE hS hA hK hP hD hX rfl (IX_recv I1)) rfl rfl hl.1 rfl (lv_room (Nat.le_of_ble_eq_true rfl)) dL_law_472 ⟨by show _ + 0 ≤ 600000; omega, by show _ + 0 ≤ 7302250; omega⟩) hP hD hS hA (fun r11 w1 H locs hp hP hD hS => ?_)
  obtain ⟨I1, h12⟩ := hp
  refine lv_pop hx hb dL_law_475 rfl ?_
  refine lv_aload_n hx hb dL_law_476 rfl (lv_at hl 1 rfl) ?_
  refine lv_aload_n hx hb dL_law_477 rfl (lv_at hl 3 rfl) ?_
  refine lv_iload_n hx hb dL_law_478 rfl (lv_at hl 0 rfl) ?_
  refine lv_iconst (v := 1) hx hb dL_law_479 (by decide) ?_
  refine lv_iadd hx hb dL_law_480 ?_
  refine lv_topi (fun r13 h14 => ?_)
  have f15 : r13.toInt = x3.toInt + 1 := z_iadd h14 rfl (show Int32.toInt 1 = 1 from by decide) (by omega) (by omega)
  refine va_sld hx hb hXs hbl hbA hS (z_in rfl (by omega) (by omega)) dL_law_481 ?_
  refine lv_topi (fun a16 h17 => ?_)
  refine lv_aload_n hx hb dL_law_482 rfl (lv_at hl 3 rfl) ?_
  refine lv_iload_n hx hb dL_law_483 rfl (lv_at hl 0 rfl) ?_
  refine lv_iconst (v := 2) hx hb dL_law_484 (by decide) ?_
  refine lv_iadd hx hb dL_law_485 ?_
  refine lv_topi (fun r18 h19 => ?_)
  have f20 : r18.toInt = x3.toInt + 2 := z_iadd h19 rfl (show Int32.toInt 2 = 2 from by decide) (by omega) (by omega)
  refine va_sld hx hb hXs hbl hbA hS (z_in rfl (by omega) (by omega)) dL_law_486 ?_
  refine lv_topi (fun a21 h22 => ?_)
  have hP : va_P (dC, dI) vwCl (w2 ++ w1) H := f_Pm List.perm_append_comm hP
  have hD : va_D (fun q : Nat => s.heap.size ≤ q) (w2 ++ w1) := f_Dm List.perm_append_comm hD
  refine f_fini (va_runV (As := [.int a16, .int a21]) (rest := []) ⟨hx, hb, hml, hown, hts⟩ (q_X9_draw l dC dI cB cI cJ cZ cP cQ adK adV q0 a2 H.size ob w2 a16 a21 I2) (cwV 2 hts gT_X9_draw rfl rfl rfl (by decide +kernel) ⟨Nat.le_of_ble_eq_true rfl, Nat.le_of_ble_eq_true rfl⟩) (f_pV (ci := 9) hE hS hA hK hP hD hX rfl (IM_recv I2)) rfl rfl hl.1 rfl (lv_room (Nat.le_of_ble_eq_true rfl)) dL_law_487 ⟨by show _ + 0 ≤ 600000; omega, by show _ + 0 ≤ 7302250; omega⟩) hP hD hS hA (fun r23 w2 H locs hp hP hD hS => ?_)
  obtain ⟨I2, h24⟩ := hp
  have hP : va_P (dC, dI) vwCl (w1 ++ w2) H := f_Pm List.perm_append_comm hP
  have hD : va_D (fun q : Nat => s.heap.size ≤ q) (w1 ++ w2) := f_Dm List.perm_append_comm hD
  refine lv_pop hx hb dL_law_490 rfl ?_
  refine lv_goto (tgt := 1615) hx hb dL_law_491 (by decide) ?_
  refine W.widen (k := cells + 18) (n := slots + 1522) (by omega) (by omega) ?_
  exact kk ob w1 w2 H locs ls I1 I2 hP hD hS (lv_sub hl [0, 1, 2, 3] rfl)
set_option maxHeartbeats 8000000 in
set_option maxRecDepth 100000 in
theorem law_case8 {p : Program} {e : Env} {s : State} {m : MethodId} {below : List Frame} {meth : Method} {c : Code} {b L : Nat} {xs : Nat → Int32} (l : Launch) (dC : Nat → ClassId) (dI : Nat → Nat → Nat) (cB cI cJ cZ cP cQ : ClassId) (adK adV : Nat → Nat) (q0 : Option Nat) (a1 a2 : Nat) (x3 : Int32) (C0 : lw_At p s m meth c b L xs) (hL : L ≤ 3072) (hK : va_K (dC, dI) vwCl (zT cB cI cJ cZ cP cQ) s) (hX : zX zNW zAO s) (hE : zE adK adV q0 (fun q : Nat => s.heap.size ≤ q) s s.heap) (i cells slots : Nat) (hi : x3.toInt = i) (hiL : i + 6 ≤ L) (hc : cells + 18 ≤ 600000) (hs : slots + 1522 ≤ 7302250) (ob : Nat → Int32) (w1 w2 : va_W) (I1 : IX cB cI cJ cZ cP cQ a1 ob w1) (I2 : IM cB cI cJ cZ cP cQ a2 ob w2) (H : Heap) (locs : List Loc) (hP : va_P (dC, dI) vwCl (w1 ++ w2) H) (hD : va_D (fun q : Nat => s.heap.size ≤ q) (w1 ++ w2)) (hS : va_S (fun q : Nat => s.heap.size ≤ q) s.heap H locs) (ls : Array Slot) (hl : lv_has ls 4 [(3, .int x3), (2, .ref a2), (1, .ref a1), (0, .ref b)]) (kk : ∀ (ob : Nat → Int32) (w1 w2 : va_W) (H : Heap) (locs : List Loc) (ls : Array Slot), IX cB cI cJ cZ cP cQ a1 ob w1 → IM cB cI cJ cZ cP cQ a2 ob w2 → va_P (dC, dI) vwCl (w1 ++ w2) H → va_D (fun q : Nat => s.heap.size ≤ q) (w1 ++ w2) → va_S (fun q : Nat => s.heap.size ≤ q) s.heap H locs → lv_has ls 4 [(3, .int x3), (2, .ref a2), (1, .ref a1), (0, .ref b)] → W p l e room_1 s m #[Value.ref b] below meth c H locs (cells + 18) (slots + 1522) (lw_Z below #[Value.ref b] s) (F0 m 1615 ls [])) : W p l e room_1 s m #[Value.ref b] below meth c H locs cells slots (lw_Z below #[Value.ref b] s) (F0 m 494 ls []) := by
  obtain ⟨hx, hb, hr, hml, hown, hts, hXs, hbl, hlocks, hgv⟩ := id C0
  have hown : s.vm.findClass RL = some m.cls := hown
  have hA : ∀ q : Nat, s.heap.size ≤ q → (fun q : Nat => s.heap.size ≤ q) q := fun _ h => h
  have hbA : ¬ (fun q : Nat => s.heap.size ≤ q) b := Nat.not_le.mpr hbl
  refine lv_aload_n hx hb dL_law_494 rfl (lv_at hl 2 rfl) ?_
  refine lv_aload_n hx hb dL_law_495 rfl (lv_at hl 3 rfl) ?_
  refine lv_iload_n hx hb dL_law_496 rfl (lv_at hl 0 rfl) ?_
  refine lv_iconst (v := 1) hx hb dL_law_497 (by decide) ?_
  refine lv_iadd hx hb dL_law_498 ?_
  refine lv_topi (fun r1 h2 => ?_)
  have f3 : r1.toInt = x3.toInt + 1 := z_iadd h2 rfl (show Int32.toInt 1 = 1 from by decide) (by omega) (by omega)
  refine va_sld hx hb hXs hbl hbA hS (z_in rfl (by omega) (by omega)) dL_law_499 ?_
  refine lv_topi (fun a4 h5 => ?_)
  refine lv_aload_n hx hb dL_law_500 rfl (lv_at hl 3 rfl) ?_
  refine lv_iload_n hx hb dL_law_501 rfl (lv_at hl 0 rfl) ?_
  refine lv_iconst (v := 2) hx hb dL_law_502 (by decide) ?_
  refine lv_iadd hx hb dL_law_503 ?_
  refine lv_topi (fun r6 h7 => ?_)
  have f8 : r6.toInt = x3.toInt + 2 := z_iadd h7 rfl (show Int32.toInt 2 = 2 from by decide) (by omega) (by omega)
  refine va_sld hx hb hXs hbl hbA hS (z_in rfl (by omega) (by omega)) dL_law_504 ?_
  refine lv_topi (fun a9 h10 => ?_)
  refine lv_aload_n hx hb dL_law_505 rfl (lv_at hl 3 rfl) ?_
  refine lv_iload_n hx hb dL_law_506 rfl (lv_at hl 0 rfl) ?_
  refine lv_iconst (v := 3) hx hb dL_law_507 (by decide) ?_
  refine lv_iadd hx hb dL_law_508 ?_
  refine lv_topi (fun r11 h12 => ?_)
  have f13 : r11.toInt = x3.toInt + 3 := z_iadd h12 rfl (show Int32.toInt 3 = 3 from by decide) (by omega) (by omega)
  refine va_sld hx hb hXs hbl hbA hS (z_in rfl (by omega) (by omega)) dL_law_509 ?_
  refine lv_topi (fun a14 h15 => ?_)
  refine lv_aload_n hx hb dL_law_510 rfl (lv_at hl 3 rfl) ?_
  refine lv_iload_n hx hb dL_law_511 rfl (lv_at hl 0 rfl) ?_
  refine lv_iconst (v := 4) hx hb dL_law_512 (by decide) ?_
  refine lv_iadd hx hb dL_law_513 ?_
  refine lv_topi (fun r16 h17 => ?_)
  have f18 : r16.toInt = x3.toInt + 4 := z_iadd h17 rfl (show Int32.toInt 4 = 4 from by decide) (by omega) (by omega)
  refine va_sld hx hb hXs hbl hbA hS (z_in rfl (by omega) (by omega)) dL_law_514 ?_
  refine lv_topi (fun a19 h20 => ?_)
  refine f_fini (va_runV (As := [.int a4, .int a9, .int a14, .int a19]) (rest := []) ⟨hx, hb, hml, hown, hts⟩ (q_X8_sheet l dC dI cB cI cJ cZ cP cQ adK adV q0 a1 H.size ob w1 a4 a9 a14 a19 I1) (cwV 4 hts gT_X8_sheet rfl rfl rfl (by decide +kernel) ⟨Nat.le_of_ble_eq_true rfl, Nat.le_of_ble_eq_true rfl⟩) (f_pV (ci := 8) hE hS hA hK hP hD hX rfl (IX_recv I1)) rfl rfl hl.1 rfl (lv_room (Nat.le_of_ble_eq_true rfl)) dL_law_515 ⟨by show _ + 0 ≤ 600000; omega, by show _ + 0 ≤ 7302250; omega⟩) hP hD hS hA (fun r21 w1 H locs hp hP hD hS => ?_)
  obtain ⟨I1, h22⟩ := hp
  refine lv_pop hx hb dL_law_518 rfl ?_
  refine lv_aload_n hx hb dL_law_519 rfl (lv_at hl 1 rfl) ?_
  refine lv_aload_n hx hb dL_law_520 rfl (lv_at hl 3 rfl) ?_
  refine lv_iload_n hx hb dL_law_521 rfl (lv_at hl 0 rfl) ?_
  refine lv_iconst (v := 1) hx hb dL_law_522 (by decide) ?_
  refine lv_iadd hx hb dL_law_523 ?_
  refine lv_topi (fun r23 h24 => ?_)
  have f25 : r23.toInt = x3.toInt + 1 := z_iadd h24 rfl (show Int32.toInt 1 = 1 from by decide) (by omega) (by omega)
  refine va_sld hx hb hXs hbl hbA hS (z_in rfl (by omega) (by omega)) dL_law_524 ?_
  refine lv_topi (fun a26 h27 => ?_)
  refine lv_aload_n hx hb dL_law_525 rfl (lv_at hl 3 rfl) ?_
  refine lv_iload_n hx hb dL_law_526 rfl (lv_at hl 0 rfl) ?_
  refine lv_iconst (v := 2) hx hb dL_law_527 (by decide) ?_
  refine lv_iadd hx hb dL_law_528 ?_
  refine lv_topi (fun r28 h29 => ?_)
  have f30 : r28.toInt = x3.toInt + 2 := z_iadd h29 rfl (show Int32.toInt 2 = 2 from by decide) (by omega) (by omega)
  refine va_sld hx hb hXs hbl hbA hS (z_in rfl (by omega) (by omega)) dL_law_529 ?_
  refine lv_topi (fun a31 h32 => ?_)
  refine lv_aload_n hx hb dL_law_530 rfl (lv_at hl 3 rfl) ?_
  refine lv_iload_n hx hb dL_law_531 rfl (lv_at hl 0 rfl) ?_
  refine lv_iconst (v := 3) hx hb dL_law_532 (by decide) ?_
  refine lv_iadd hx hb dL_law_533 ?_
  refine lv_topi (fun r33 h34 => ?_)
  have f35 : r33.toInt = x3.toInt + 3 := z_iadd h34 rfl (show Int32.toInt 3 = 3 from by decide) (by omega) (by omega)
  refine va_sld hx hb hXs hbl hbA hS (z_in rfl (by omega) (by omega)) dL_law_534 ?_
  refine lv_topi (fun a36 h37 => ?_)
  refine lv_aload_n hx hb dL_law_535 rfl (lv_at hl 3 rfl) ?_
  refine lv_iload_n hx hb dL_law_536 rfl (lv_at hl 0 rfl) ?_
  refine lv_iconst (v := 4) hx hb dL_law_537 (by decide) ?_
  refine lv_iadd hx hb dL_law_538 ?_
  refine lv_topi (fun r38 h39 => ?_)
  have f40 : r38.toInt = x3.toInt + 4 := z_iadd h39 rfl (show Int32.toInt 4 = 4 from by decide) (by omega) (by omega)
  refine va_sld hx hb hXs hbl hbA hS (z_in rfl (by omega) (by omega)) dL_law_539 ?_
  refine lv_topi (fun a41 h42 => ?_)
  have hP : va_P (dC, dI) vwCl (w2 ++ w1) H := f_Pm List.perm_append_comm hP
  have hD : va_D (fun q : Nat => s.heap.size ≤ q) (w2 ++ w1) := f_Dm List.perm_append_comm hD
  refine f_fini (va_runV (As := [.int a26, .int a31, .int a36, .int a41]) (rest := []) ⟨hx, hb, hml, hown, hts⟩ (q_X9_sheet l dC dI cB cI cJ cZ cP cQ adK adV q0 a2 H.size ob w2 a26 a31 a36 a41 I2) (cwV 4 hts gT_X9_sheet rfl rfl rfl (by decide +kernel) ⟨Nat.le_of_ble_eq_true rfl, Nat.le_of_ble_eq_true rfl⟩) (f_pV (ci := 9) hE hS hA hK hP hD hX rfl (IM_recv I2)) rfl rfl hl.1 rfl (lv_room (Nat.le_of_ble_eq_true rfl)) dL_law_540 ⟨by show _ + 0 ≤ 600000; omega, by show _ + 0 ≤ 7302250; omega⟩) hP hD hS hA (fun r43 w2 H locs hp hP hD hS => ?_)
  obtain ⟨I2, h44⟩ := hp
  have hP : va_P (dC, dI) vwCl (w1 ++ w2) H := f_Pm List.perm_append_comm hP
  have hD : va_D (fun q : Nat => s.heap.size ≤ q) (w1 ++ w2) := f_Dm List.perm_append_comm hD
  refine lv_pop hx hb dL_law_543 rfl ?_
  refine lv_goto (tgt := 1615) hx hb dL_law_544 (by decide) ?_
  refine W.widen (k := cells + 18) (n := slots + 1522) (by omega) (by omega) ?_
  exact kk ob w1 w2 H locs ls I1 I2 hP hD hS (lv_sub hl [0, 1, 2, 3] rfl)
set_option maxHeartbeats 8000000 in
set_option maxRecDepth 100000 in
theorem law_case9 {p : Program} {e : Env} {s : State} {m : MethodId} {below : List Frame} {meth : Method} {c : Code} {b L : Nat} {xs : Nat → Int32} (l : Launch) (dC : Nat → ClassId) (dI : Nat → Nat → Nat) (cB cI cJ cZ cP cQ : ClassId) (adK adV : Nat → Nat) (q0 : Option Nat) (a1 a2 : Nat) (x3 : Int32) (C0 : lw_At p s m meth c b L xs) (hL : L ≤ 3072) (hK : va_K (dC, dI) vwCl (zT cB cI cJ cZ cP cQ) s) (hX : zX zNW zAO s) (hE : zE adK adV q0 (fun q : Nat => s.heap.size ≤ q) s s.heap) (i cells slots : Nat) (hi : x3.toInt = i) (hiL : i + 6 ≤ L) (hc : cells + 18 ≤ 600000) (hs : slots + 1522 ≤ 7302250) (ob : Nat → Int32) (w1 w2 : va_W) (I1 : IX cB cI cJ cZ cP cQ a1 ob w1) (I2 : IM cB cI cJ cZ cP cQ a2 ob w2) (H : Heap) (locs : List Loc) (hP : va_P (dC, dI) vwCl (w1 ++ w2) H) (hD : va_D (fun q : Nat => s.heap.size ≤ q) (w1 ++ w2)) (hS : va_S (fun q : Nat => s.heap.size ≤ q) s.heap H locs) (ls : Array Slot) (hl : lv_has ls 4 [(3, .int x3), (2, .ref a2), (1, .ref a1), (0, .ref b)]) (kk : ∀ (ob : Nat → Int32) (w1 w2 : va_W) (H : Heap) (locs : List Loc) (ls : Array Slot), IX cB cI cJ cZ cP cQ a1 ob w1 → IM cB cI cJ cZ cP cQ a2 ob w2 → va_P (dC, dI) vwCl (w1 ++ w2) H → va_D (fun q : Nat => s.heap.size ≤ q) (w1 ++ w2) → va_S (fun q : Nat => s.heap.size ≤ q) s.heap H locs → lv_has ls 4 [(3, .int x3), (2, .ref a2), (1, .ref a1), (0, .ref b)] → W p l e room_1 s m #[Value.ref b] below meth c H locs (cells + 18) (slots + 1522) (lw_Z below #[Value.ref b] s) (F0 m 1615 ls [])) : W p l e room_1 s m #[Value.ref b] below meth c H locs cells slots (lw_Z below #[Value.ref b] s) (F0 m 547 ls []) := by
  obtain ⟨hx, hb, hr, hml, hown, hts, hXs, hbl, hlocks, hgv⟩ := id C0
  have hown : s.vm.findClass RL = some m.cls := hown
  have hA : ∀ q : Nat, s.heap.size ≤ q → (fun q : Nat => s.heap.size ≤ q) q := fun _ h => h
  have hbA : ¬ (fun q : Nat => s.heap.size ≤ q) b := Nat.not_le.mpr hbl
  refine lv_aload_n hx hb dL_law_547 rfl (lv_at hl 2 rfl) ?_
  refine lv_aload_n hx hb dL_law_548 rfl (lv_at hl 3 rfl) ?_
  refine lv_iload_n hx hb dL_law_549 rfl (lv_at hl 0 rfl) ?_
  refine lv_iconst (v := 1) hx hb dL_law_550 (by decide) ?_
  refine lv_iadd hx hb dL_law_551 ?_
  refine lv_topi (fun r1 h2 => ?_)
  have f3 : r1.toInt = x3.toInt + 1 := z_iadd h2 rfl (show Int32.toInt 1 = 1 from by decide) (by omega) (by omega)
  refine va_sld hx hb hXs hbl hbA hS (z_in rfl (by omega) (by omega)) dL_law_552 ?_
  refine lv_topi (fun a4 h5 => ?_)
  refine lv_aload_n hx hb dL_law_553 rfl (lv_at hl 3 rfl) ?_
  refine lv_iload_n hx hb dL_law_554 rfl (lv_at hl 0 rfl) ?_
  refine lv_iconst (v := 2) hx hb dL_law_555 (by decide) ?_
  refine lv_iadd hx hb dL_law_556 ?_
  refine lv_topi (fun r6 h7 => ?_)
  have f8 : r6.toInt = x3.toInt + 2 := z_iadd h7 rfl (show Int32.toInt 2 = 2 from by decide) (by omega) (by omega)
  refine va_sld hx hb hXs hbl hbA hS (z_in rfl (by omega) (by omega)) dL_law_557 ?_
  refine lv_topi (fun a9 h10 => ?_)
  refine f_fini (va_runV (As := [.int a4, .int a9]) (rest := []) ⟨hx, hb, hml, hown, hts⟩ (q_X8_told l dC dI cB cI cJ cZ cP cQ adK adV q0 a1 H.size ob w1 a4 a9 I1) (cwV 2 hts gT_X8_told rfl rfl rfl (by decide +kernel) ⟨Nat.le_of_ble_eq_true rfl, Nat.le_of_ble_eq_true rfl⟩) (f_pV (ci := 8) hE hS hA hK hP hD hX rfl (IX_recv I1)) rfl rfl hl.1 rfl (lv_room (Nat.le_of_ble_eq_true rfl)) dL_law_558 ⟨by show _ + 0 ≤ 600000; omega, by show _ + 0 ≤ 7302250; omega⟩) hP hD hS hA (fun r11 w1 H locs hp hP hD hS => ?_)
  obtain ⟨I1, h12⟩ := hp
  refine lv_pop hx hb dL_law_561 rfl ?_
  refine lv_aload_n hx hb dL_law_562 rfl (lv_at hl 1 rfl) ?_
  refine lv_aload_n hx hb dL_law_563 rfl (lv_at hl 3 rfl) ?_
  refine lv_iload_n hx hb dL_law_564 rfl (lv_at hl 0 rfl) ?_
  refine lv_iconst (v := 1) hx hb dL_law_565 (by decide) ?_
  refine lv_iadd hx hb dL_law_566 ?_
  refine lv_topi (fun r13 h14 => ?_)
  have f15 : r13.toInt = x3.toInt + 1 := z_iadd h14 rfl (show Int32.toInt 1 = 1 from by decide) (by omega) (by omega)
  refine va_sld hx hb hXs hbl hbA hS (z_in rfl (by omega) (by omega)) dL_law_567 ?_
  refine lv_topi (fun a16 h17 => ?_)
  refine lv_aload_n hx hb dL_law_568 rfl (lv_at hl 3 rfl) ?_
  refine lv_iload_n hx hb dL_law_569 rfl (lv_at hl 0 rfl) ?_
  refine lv_iconst (v := 2) hx hb dL_law_570 (by decide) ?_
  refine lv_iadd hx hb dL_law_571 ?_
  refine lv_topi (fun r18 h19 => ?_)
  have f20 : r18.toInt = x3.toInt + 2 := z_iadd h19 rfl (show Int32.toInt 2 = 2 from by decide) (by omega) (by omega)
  refine va_sld hx hb hXs hbl hbA hS (z_in rfl (by omega) (by omega)) dL_law_572 ?_
  refine lv_topi (fun a21 h22 => ?_)
  have hP : va_P (dC, dI) vwCl (w2 ++ w1) H := f_Pm List.perm_append_comm hP
  have hD : va_D (fun q : Nat => s.heap.size ≤ q) (w2 ++ w1) := f_Dm List.perm_append_comm hD
  refine f_fini (va_runV (As := [.int a16, .int a21]) (rest := []) ⟨hx, hb, hml, hown, hts⟩ (q_X9_told l dC dI cB cI cJ cZ cP cQ adK adV q0 a2 H.size ob w2 a16 a21 I2) (cwV 2 hts gT_X9_told rfl rfl rfl (by decide +kernel) ⟨Nat.le_of_ble_eq_true rfl, Nat.le_of_ble_eq_true rfl⟩) (f_pV (ci := 9) hE hS hA hK hP hD hX rfl (IM_recv I2)) rfl rfl hl.1 rfl (lv_room (Nat.le_of_ble_eq_true rfl)) dL_law_573 ⟨by show _ + 0 ≤ 600000; omega, by show _ + 0 ≤ 7302250; omega⟩) hP hD hS hA (fun r23 w2 H locs hp hP hD hS => ?_)
  obtain ⟨I2, h24⟩ := hp
  have hP : va_P (dC, dI) vwCl (w1 ++ w2) H := f_Pm List.perm_append_comm hP
  have hD : va_D (fun q : Nat => s.heap.size ≤ q) (w1 ++ w2) := f_Dm List.perm_append_comm hD
  refine lv_pop hx hb dL_law_576 rfl ?_
  refine lv_goto (tgt := 1615) hx hb dL_law_577 (by decide) ?_
  refine W.widen (k := cells + 18) (n := slots + 1522) (by omega) (by omega) ?_
  exact kk ob w1 w2 H locs ls I1 I2 hP hD hS (lv_sub hl [0, 1, 2, 3] rfl)
set_option maxHeartbeats 8000000 in
set_option maxRecDepth 100000 in
theorem law_case10 {p : Program} {e : Env} {s : State} {m : MethodId} {below : List Frame} {meth : Method} {c : Code} {b L : Nat} {xs : Nat → Int32} (l : Launch) (dC : Nat → ClassId) (dI : Nat → Nat → Nat) (cB cI cJ cZ cP cQ : ClassId) (adK adV : Nat → Nat) (q0 : Option Nat) (a1 a2 : Nat) (x3 : Int32) (C0 : lw_At p s m meth c b L xs) (hL : L ≤ 3072) (hK : va_K (dC, dI) vwCl (zT cB cI cJ cZ cP cQ) s) (hX : zX zNW zAO s) (hE : zE adK adV q0 (fun q : Nat => s.heap.size ≤ q) s s.heap) (i cells slots : Nat) (hi : x3.toInt = i) (hiL : i + 6 ≤ L) (hc : cells + 18 ≤ 600000) (hs : slots + 1522 ≤ 7302250) (ob : Nat → Int32) (w1 w2 : va_W) (I1 : IX cB cI cJ cZ cP cQ a1 ob w1) (I2 : IM cB cI cJ cZ cP cQ a2 ob w2) (H : Heap) (locs : List Loc) (hP : va_P (dC, dI) vwCl (w1 ++ w2) H) (hD : va_D (fun q : Nat => s.heap.size ≤ q) (w1 ++ w2)) (hS : va_S (fun q : Nat => s.heap.size ≤ q) s.heap H locs) (ls : Array Slot) (hl : lv_has ls 4 [(3, .int x3), (2, .ref a2), (1, .ref a1), (0, .ref b)]) (kk : ∀ (ob : Nat → Int32) (w1 w2 : va_W) (H : Heap) (locs : List Loc) (ls : Array Slot), IX cB cI cJ cZ cP cQ a1 ob w1 → IM cB cI cJ cZ cP cQ a2 ob w2 → va_P (dC, dI) vwCl (w1 ++ w2) H → va_D (fun q : Nat => s.heap.size ≤ q) (w1 ++ w2) → va_S (fun q : Nat => s.heap.size ≤ q) s.heap H locs → lv_has ls 4 [(3, .int x3), (2, .ref a2), (1, .ref a1), (0, .ref b)] → W p l e room_1 s m #[Value.ref b] below meth c H locs (cells + 18) (slots + 1522) (lw_Z below #[Value.ref b] s) (F0 m 1615 ls [])) : W p l e room_1 s m #[Value.ref b] below meth c H locs cells slots (lw_Z below #[Value.ref b] s) (F0 m 580 ls []) := by
  obtain ⟨hx, hb, hr, hml, hown, hts, hXs, hbl, hlocks, hgv⟩ := id C0
  have hown : s.vm.findClass RL = some m.cls := hown
  have hA : ∀ q : Nat, s.heap.size ≤ q → (fun q : Nat => s.heap.size ≤ q) q := fun _ h => h
  have hbA : ¬ (fun q : Nat => s.heap.size ≤ q) b := Nat.not_le.mpr hbl
  refine lv_aload_n hx hb dL_law_580 rfl (lv_at hl 2 rfl) ?_
  refine lv_aload_n hx hb dL_law_581 rfl (lv_at hl 3 rfl) ?_
  refine lv_iload_n hx hb dL_law_582 rfl (lv_at hl 0 rfl) ?_
  refine lv_iconst (v := 1) hx hb dL_law_583 (by decide) ?_
  refine lv_iadd hx hb dL_law_584 ?_
  refine lv_topi (fun r1 h2 => ?_)
  have f3 : r1.toInt = x3.toInt + 1 := z_iadd h2 rfl (show Int32.toInt 1 = 1 from by decide) (by omega) (by omega)
  refine va_sld hx hb hXs hbl hbA hS (z_in rfl (by omega) (by omega)) dL_law_585 ?_
  refine lv_topi (fun a4 h5 => ?_)
  refine lv_aload_n hx hb dL_law_586 rfl (lv_at hl 3 rfl) ?_
  refine lv_iload_n hx hb dL_law_587 rfl (lv_at hl 0 rfl) ?_
  refine lv_iconst (v := 2) hx hb dL_law_588 (by decide) ?_
  refine lv_iadd hx hb dL_law_589 ?_
  refine lv_topi (fun r6 h7 => ?_)
  have f8 : r6.toInt = x3.toInt + 2 := z_iadd h7 rfl (show Int32.toInt 2 = 2 from by decide) (by omega) (by omega)
  refine va_sld hx hb hXs hbl hbA hS (z_in rfl (by omega) (by omega)) dL_law_590 ?_
  refine lv_topi (fun a9 h10 => ?_)
  refine f_fini (va_runV (As := [.int a4, .int a9]) (rest := []) ⟨hx, hb, hml, hown, hts⟩ (q_X8_would l dC dI cB cI cJ cZ cP cQ adK adV q0 a1 H.size ob w1 a4 a9 I1) (cwV 2 hts gT_X8_would rfl rfl rfl (by decide +kernel) ⟨Nat.le_of_ble_eq_true rfl, Nat.le_of_ble_eq_true rfl⟩) (f_pV (ci := 8) hE hS hA hK hP hD hX rfl (IX_recv I1)) rfl rfl hl.1 rfl (lv_room (Nat.le_of_ble_eq_true rfl)) dL_law_591 ⟨by show _ + 0 ≤ 600000; omega, by show _ + 0 ≤ 7302250; omega⟩) hP hD hS hA (fun r11 w1 H locs hp hP hD hS => ?_)
  obtain ⟨I1, h12⟩ := hp
  refine lv_pop hx hb dL_law_594 rfl ?_
  refine lv_aload_n hx hb dL_law_595 rfl (lv_at hl 1 rfl) ?_
  refine lv_aload_n hx hb dL_law_596 rfl (lv_at hl 3 rfl) ?_
  refine lv_iload_n hx hb dL_law_597 rfl (lv_at hl 0 rfl) ?_
  refine lv_iconst (v := 1) hx hb dL_law_598 (by decide) ?_
  refine lv_iadd hx hb dL_law_599 ?_
  refine lv_topi (fun r13 h14 => ?_)
  have f15 : r13.toInt = x3.toInt + 1 := z_iadd h14 rfl (show Int32.toInt 1 = 1 from by decide) (by omega) (by omega)
  refine va_sld hx hb hXs hbl hbA hS (z_in rfl (by omega) (by omega)) dL_law_600 ?_
  refine lv_topi (fun a16 h17 => ?_)
  refine lv_aload_n hx hb dL_law_601 rfl (lv_at hl 3 rfl) ?_
  refine lv_iload_n hx hb dL_law_602 rfl (lv_at hl 0 rfl) ?_
  refine lv_iconst (v := 2) hx hb dL_law_603 (by decide) ?_
  refine lv_iadd hx hb dL_law_604 ?_
  refine lv_topi (fun r18 h19 => ?_)
  have f20 : r18.toInt = x3.toInt + 2 := z_iadd h19 rfl (show Int32.toInt 2 = 2 from by decide) (by omega) (by omega)
  refine va_sld hx hb hXs hbl hbA hS (z_in rfl (by omega) (by omega)) dL_law_605 ?_
  refine lv_topi (fun a21 h22 => ?_)
  have hP : va_P (dC, dI) vwCl (w2 ++ w1) H := f_Pm List.perm_append_comm hP
  have hD : va_D (fun q : Nat => s.heap.size ≤ q) (w2 ++ w1) := f_Dm List.perm_append_comm hD
  refine f_fini (va_runV (As := [.int a16, .int a21]) (rest := []) ⟨hx, hb, hml, hown, hts⟩ (q_X9_would l dC dI cB cI cJ cZ cP cQ adK adV q0 a2 H.size ob w2 a16 a21 I2) (cwV 2 hts gT_X9_would rfl rfl rfl (by decide +kernel) ⟨Nat.le_of_ble_eq_true rfl, Nat.le_of_ble_eq_true rfl⟩) (f_pV (ci := 9) hE hS hA hK hP hD hX rfl (IM_recv I2)) rfl rfl hl.1 rfl (lv_room (Nat.le_of_ble_eq_true rfl)) dL_law_606 ⟨by show _ + 0 ≤ 600000; omega, by show _ + 0 ≤ 7302250; omega⟩) hP hD hS hA (fun r23 w2 H locs hp hP hD hS => ?_)
  obtain ⟨I2, h24⟩ := hp
  have hP : va_P (dC, dI) vwCl (w1 ++ w2) H := f_Pm List.perm_append_comm hP
  have hD : va_D (fun q : Nat => s.heap.size ≤ q) (w1 ++ w2) := f_Dm List.perm_append_comm hD
  refine lv_pop hx hb dL_law_609 rfl ?_
  refine lv_goto (tgt := 1615) hx hb dL_law_610 (by decide) ?_
  refine W.widen (k := cells + 18) (n := slots + 1522) (by omega) (by omega) ?_
  exact kk ob w1 w2 H locs ls I1 I2 hP hD hS (lv_sub hl [0, 1, 2, 3] rfl)
