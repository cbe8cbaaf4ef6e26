set_option maxHeartbeats 8000000 in
set_option maxRecDepth 100000 in
theorem law_case33 {p : Program} {e : Env} {s : State} {m : MethodId} {below : List Frame} {meth : Method} {c : Code} {b L : Nat} {xs : Nat → Int32} (l : Launch) (dC : Nat → ClassId) (dI : Nat → Nat → Nat) (cB cI cJ cZ cP cQ : ClassId) (adK adV : Nat → Nat) (q0 : Option Nat) (a1 a2 : Nat) (x3 : Int32) (C0 : lw_At p s m meth c b L xs) (hL : L ≤ 3072) (hK : va_K (dC, dI) vwCl (zT cB cI cJ cZ cP cQ) s) (hX : zX zNW zAO s) (hE : zE adK adV q0 (fun q : Nat => s.heap.size ≤ q) s s.heap) (i cells slots : Nat) (hi : x3.toInt = i) (hiL : i + 6 ≤ L) (hc : cells + 18 ≤ 600000) (hs : slots + 1522 ≤ 7302250) (ob : Nat → Int32) (w1 w2 : va_W) (I1 : IX cB cI cJ cZ cP cQ a1 ob w1) (I2 : IM cB cI cJ cZ cP cQ a2 ob w2) (H : Heap) (locs : List Loc) (hP : va_P (dC, dI) vwCl (w1 ++ w2) H) (hD : va_D (fun q : Nat => s.heap.size ≤ q) (w1 ++ w2)) (hS : va_S (fun q : Nat => s.heap.size ≤ q) s.heap H locs) (ls : Array Slot) (hl : lv_has ls 4 [(3, .int x3), (2, .ref a2), (1, .ref a1), (0, .ref b)]) (kk : ∀ (ob : Nat → Int32) (w1 w2 : va_W) (H : Heap) (locs : List Loc) (ls : Array Slot), IX cB cI cJ cZ cP cQ a1 ob w1 → IM cB cI cJ cZ cP cQ a2 ob w2 → va_P (dC, dI) vwCl (w1 ++ w2) H → va_D (fun q : Nat => s.heap.size ≤ q) (w1 ++ w2) → va_S (fun q : Nat => s.heap.size ≤ q) s.heap H locs → lv_has ls 4 [(3, .int x3), (2, .ref a2), (1, .ref a1), (0, .ref b)] → W p l e room_1 s m #[Value.ref b] below meth c H locs (cells + 18) (slots + 1522) (lw_Z below #[Value.ref b] s) (F0 m 1615 ls [])) : W p l e room_1 s m #[Value.ref b] below meth c H locs cells slots (lw_Z below #[Value.ref b] s) (F0 m 1235 ls []) := by
  obtain ⟨hx, hb, hr, hml, hown, hts, hXs, hbl, hlocks, hgv⟩ := id C0
  have hown : s.vm.findClass RL = some m.cls := hown
  have hA : ∀ q : Nat, s.heap.size ≤ q → (fun q : Nat => s.heap.size ≤ q) q := fun _ h => h
  have hbA : ¬ (fun q : Nat => s.heap.size ≤ q) b := Nat.not_le.mpr hbl
  refine lv_aload_n hx hb dL_law_1235 rfl (lv_at hl 2 rfl) ?_
  refine lv_aload_n hx hb dL_law_1236 rfl (lv_at hl 3 rfl) ?_
  refine lv_iload_n hx hb dL_law_1237 rfl (lv_at hl 0 rfl) ?_
  refine lv_iconst (v := 1) hx hb dL_law_1238 (by decide) ?_
  refine lv_iadd hx hb dL_law_1239 ?_
  refine lv_topi (fun r1 h2 => ?_)
  have f3 : r1.toInt = x3.toInt + 1 := z_iadd h2 rfl (show Int32.toInt 1 = 1 from by decide) (by omega) (by omega)
  refine va_sld hx hb hXs hbl hbA hS (z_in rfl (by omega) (by omega)) dL_law_1240 ?_
  refine lv_topi (fun a4 h5 => ?_)
  refine lv_aload_n hx hb dL_law_1241 rfl (lv_at hl 3 rfl) ?_
  refine lv_iload_n hx hb dL_law_1242 rfl (lv_at hl 0 rfl) ?_
  refine lv_iconst (v := 2) hx hb dL_law_1243 (by decide) ?_
  refine lv_iadd hx hb dL_law_1244 ?_
  refine lv_topi (fun r6 h7 => ?_)
  have f8 : r6.toInt = x3.toInt + 2 := z_iadd h7 rfl (show Int32.toInt 2 = 2 from by decide) (by omega) (by omega)
  refine va_sld hx hb hXs hbl hbA hS (z_in rfl (by omega) (by omega)) dL_law_1245 ?_
  refine lv_topi (fun a9 h10 => ?_)
  refine lv_aload_n hx hb dL_law_1246 rfl (lv_at hl 3 rfl) ?_
  refine lv_iload_n hx hb dL_law_1247 rfl (lv_at hl 0 rfl) ?_
  refine lv_iconst (v := 3) hx hb dL_law_1248 (by decide) ?_
  refine lv_iadd hx hb dL_law_1249 ?_
  refine lv_topi (fun r11 h12 => ?_)
  have f13 : r11.toInt = x3.toInt + 3 := z_iadd h12 rfl (show Int32.toInt 3 = 3 from by decide) (by omega) (by omega)
  refine va_sld hx hb hXs hbl hbA hS (z_in rfl (by omega) (by omega)) dL_law_1250 ?_
  refine lv_topi (fun a14 h15 => ?_)
  refine lv_aload_n hx hb dL_law_1251 rfl (lv_at hl 3 rfl) ?_
  refine lv_iload_n hx hb dL_law_1252 rfl (lv_at hl 0 rfl) ?_
  refine lv_iconst (v := 4) hx hb dL_law_1253 (by decide) ?_
  refine lv_iadd hx hb dL_law_1254 ?_
  refine lv_topi (fun r16 h17 => ?_)
  have f18 : r16.toInt = x3.toInt + 4 := z_iadd h17 rfl (show Int32.toInt 4 = 4 from by decide) (by omega) (by omega)
  refine va_sld hx hb hXs hbl hbA hS (z_in rfl (by omega) (by omega)) dL_law_1255 ?_
  refine lv_topi (fun a19 h20 => ?_)
  refine lv_aload_n hx hb dL_law_1256 rfl (lv_at hl 3 rfl) ?_
  refine lv_iload_n hx hb dL_law_1257 rfl (lv_at hl 0 rfl) ?_
  refine lv_iconst (v := 5) hx hb dL_law_1258 (by decide) ?_
  refine lv_iadd hx hb dL_law_1259 ?_
  refine lv_topi (fun r21 h22 => ?_)
  have f23 : r21.toInt = x3.toInt + 5 := z_iadd h22 rfl (show Int32.toInt 5 = 5 from by decide) (by omega) (by omega)
  refine va_sld hx hb hXs hbl hbA hS (z_in rfl (by omega) (by omega)) dL_law_1260 ?_
  refine lv_topi (fun a24 h25 => ?_)
  refine f_fini (va_runV (As := [.int a4, .int a9, .int a14, .int a19, .int a24]) (rest := []) ⟨hx, hb, hml, hown, hts⟩ (q_X8_worlds l dC dI cB cI cJ cZ cP cQ adK adV q0 a1 H.size ob w1 a4 a9 a14 a19 a24 I1) (cwV 5 hts gT_X8_worlds rfl rfl rfl (by decide +kernel) ⟨Nat.le_of_ble_eq_true rfl, Nat.le_of_ble_eq_true rfl⟩) (f_pV (ci := 8) hE hS hA hK hP hD hX rfl (IX_recv I1)) rfl rfl hl.1 rfl (lv_room (Nat.le_of_ble_eq_true rfl)) dL_law_1261 ⟨by show _ + 0 ≤ 600000; omega, by show _ + 0 ≤ 7302250; omega⟩) hP hD hS hA (fun r26 w1 H locs hp hP hD hS => ?_)
  obtain ⟨I1, h27⟩ := hp
  refine lv_pop hx hb dL_law_1264 rfl ?_
  refine lv_aload_n hx hb dL_law_1265 rfl (lv_at hl 1 rfl) ?_
  refine lv_aload_n hx hb dL_law_1266 rfl (lv_at hl 3 rfl) ?_
  refine lv_iload_n hx hb dL_law_1267 rfl (lv_at hl 0 rfl) ?_
  refine lv_iconst (v := 1) hx hb dL_law_1268 (by decide) ?_
  refine lv_iadd hx hb dL_law_1269 ?_
  refine lv_topi (fun r28 h29 => ?_)
  have f30 : r28.toInt = x3.toInt + 1 := z_iadd h29 rfl (show Int32.toInt 1 = 1 from by decide) (by omega) (by omega)
  refine va_sld hx hb hXs hbl hbA hS (z_in rfl (by omega) (by omega)) dL_law_1270 ?_
  refine lv_topi (fun a31 h32 => ?_)
  refine lv_aload_n hx hb dL_law_1271 rfl (lv_at hl 3 rfl) ?_
  refine lv_iload_n hx hb dL_law_1272 rfl (lv_at hl 0 rfl) ?_
  refine lv_iconst (v := 2) hx hb dL_law_1273 (by decide) ?_
  refine lv_iadd hx hb dL_law_1274 ?_
  refine lv_topi (fun r33 h34 => ?_)
  have f35 : r33.toInt = x3.toInt + 2 := z_iadd h34 rfl (show Int32.toInt 2 = 2 from by decide) (by omega) (by omega)
  refine va_sld hx hb hXs hbl hbA hS (z_in rfl (by omega) (by omega)) dL_law_1275 ?_
  refine lv_topi (fun a36 h37 => ?_)
  refine lv_aload_n hx hb dL_law_1276 rfl (lv_at hl 3 rfl) ?_
  refine lv_iload_n hx hb dL_law_1277 rfl (lv_at hl 0 rfl) ?_
  refine lv_iconst (v := 3) hx hb dL_law_1278 (by decide) ?_
  refine lv_iadd hx hb dL_law_1279 ?_
  refine lv_topi (fun r38 h39 => ?_)
  have f40 : r38.toInt = x3.toInt + 3 := z_iadd h39 rfl (show Int32.toInt 3 = 3 from by decide) (by omega) (by omega)
  refine va_sld hx hb hXs hbl hbA hS (z_in rfl (by omega) (by omega)) dL_law_1280 ?_
  refine lv_topi (fun a41 h42 => ?_)
  refine lv_aload_n hx hb dL_law_1281 rfl (lv_at hl 3 rfl) ?_
  refine lv_iload_n hx hb dL_law_1282 rfl (lv_at hl 0 rfl) ?_
  refine lv_iconst (v := 4) hx hb dL_law_1283 (by decide) ?_
  refine lv_iadd hx hb dL_law_1284 ?_
  refine lv_topi (fun r43 h44 => ?_)
  have f45 : r43.toInt = x3.toInt + 4 := z_iadd h44 rfl (show Int32.toInt 4 = 4 from by decide) (by omega) (by omega)
  refine va_sld hx hb hXs hbl hbA hS (z_in rfl (by omega) (by omega)) dL_law_1285 ?_
  refine lv_topi (fun a46 h47 => ?_)
  refine lv_aload_n hx hb dL_law_1286 rfl (lv_at hl 3 rfl) ?_
  refine lv_iload_n hx hb dL_law_1287 rfl (lv_at hl 0 rfl) ?_
  refine lv_iconst (v := 5) hx hb dL_law_1288 (by decide) ?_
  refine lv_iadd hx hb dL_law_1289 ?_
  refine lv_topi (fun r48 h49 => ?_)
  have f50 : r48.toInt = x3.toInt + 5 := z_iadd h49 rfl (show Int32.toInt 5 = 5 from by decide) (by omega) (by omega)
  refine va_sld hx hb hXs hbl hbA hS (z_in rfl (by omega) (by omega)) dL_law_1290 ?_
  refine lv_topi (fun a51 h52 => ?_)
  have hP : va_P (dC, dI) vwCl (w2 ++ w1) H := f_Pm List.perm_append_comm hP
  have hD : va_D (fun q : Nat => s.heap.size ≤ q) (w2 ++ w1) := f_Dm List.perm_append_comm hD
  refine f_fini (va_runV (As := [.int a31, .int a36, .int a41, .int a46, .int a51]) (rest := []) ⟨hx, hb, hml, hown, hts⟩ (q_X9_worlds l dC dI cB cI cJ cZ cP cQ adK adV q0 a2 H.size ob w2 a31 a36 a41 a46 a51 I2) (cwV 5 hts gT_X9_worlds rfl rfl rfl (by decide +kernel) ⟨Nat.le_of_ble_eq_true rfl, Nat.le_of_ble_eq_true rfl⟩) (f_pV (ci := 9) hE hS hA hK hP hD hX rfl (IM_recv I2)) rfl rfl hl.1 rfl (lv_room (Nat.le_of_ble_eq_true rfl)) dL_law_1291 ⟨by show _ + 0 ≤ 600000; omega, by show _ + 0 ≤ 7302250; omega⟩) hP hD hS hA (fun r53 w2 H locs hp hP hD hS => ?_)
  obtain ⟨I2, h54⟩ := hp
  have hP : va_P (dC, dI) vwCl (w1 ++ w2) H := f_Pm List.perm_append_comm hP
  have hD : va_D (fun q : Nat => s.heap.size ≤ q) (w1 ++ w2) := f_Dm List.perm_append_comm hD
  refine lv_pop hx hb dL_law_1294 rfl ?_
  refine lv_goto (tgt := 1615) hx hb dL_law_1295 (by decide) ?_
  refine W.widen (k := cells + 18) (n := slots + 1522) (by omega) (by omega) ?_
  exact kk ob w1 w2 H locs ls I1 I2 hP hD hS (lv_sub hl [0, 1, 2, 3] rfl)
set_option maxHeartbeats 8000000 in
set_option maxRecDepth 100000 in
theorem law_case34 {p : Program} {e : Env} {s : State} {m : MethodId} {below : List Frame} {meth : Method} {c : Code} {b L : Nat} {xs : Nat → Int32} (l : Launch) (dC : Nat → ClassId) (dI : Nat → Nat → Nat) (cB cI cJ cZ cP cQ : ClassId) (adK adV : Nat → Nat) (q0 : Option Nat) (a1 a2 : Nat) (x3 : Int32) (C0 : lw_At p s m meth c b L xs) (hL : L ≤ 3072) (hK : va_K (dC, dI) vwCl (zT cB cI cJ cZ cP cQ) s) (hX : zX zNW zAO s) (hE : zE adK adV q0 (fun q : Nat => s.heap.size ≤ q) s s.heap) (i cells slots : Nat) (hi : x3.toInt = i) (hiL : i + 6 ≤ L) (hc : cells + 18 ≤ 600000) (hs : slots + 1522 ≤ 7302250) (ob : Nat → Int32) (w1 w2 : va_W) (I1 : IX cB cI cJ cZ cP cQ a1 ob w1) (I2 : IM cB cI cJ cZ cP cQ a2 ob w2) (H : Heap) (locs : List Loc) (hP : va_P (dC, dI) vwCl (w1 ++ w2) H) (hD : va_D (fun q : Nat => s.heap.size ≤ q) (w1 ++ w2)) (hS : va_S (fun q : Nat => s.heap.size ≤ q) s.heap H locs) (ls : Array Slot) (hl : lv_has ls 4 [(3, .int x3), (2, .ref a2), (1, .ref a1), (0, .ref b)]) (kk : ∀ (ob : Nat → Int32) (w1 w2 : va_W) (H : Heap) (locs : List Loc) (ls : Array Slot), IX cB cI cJ cZ cP cQ a1 ob w1 → IM cB cI cJ cZ cP cQ a2 ob w2 → va_P (dC, dI) vwCl (w1 ++ w2) H → va_D (fun q : Nat => s.heap.size ≤ q) (w1 ++ w2) → va_S (fun q : Nat => s.heap.size ≤ q) s.heap H locs → lv_has ls 4 [(3, .int x3), (2, .ref a2), (1, .ref a1), (0, .ref b)] → W p l e room_1 s m #[Value.ref b] below meth c H locs (cells + 18) (slots + 1522) (lw_Z below #[Value.ref b] s) (F0 m 1615 ls [])) : W p l e room_1 s m #[Value.ref b] below meth c H locs cells slots (lw_Z below #[Value.ref b] s) (F0 m 1298 ls []) := by
  obtain ⟨hx, hb, hr, hml, hown, hts, hXs, hbl, hlocks, hgv⟩ := id C0
  have hown : s.vm.findClass RL = some m.cls := hown
  have hA : ∀ q : Nat, s.heap.size ≤ q → (fun q : Nat => s.heap.size ≤ q) q := fun _ h => h
  have hbA : ¬ (fun q : Nat => s.heap.size ≤ q) b := Nat.not_le.mpr hbl
  refine lv_aload_n hx hb dL_law_1298 rfl (lv_at hl 2 rfl) ?_
  refine lv_aload_n hx hb dL_law_1299 rfl (lv_at hl 3 rfl) ?_
  refine lv_iload_n hx hb dL_law_1300 rfl (lv_at hl 0 rfl) ?_
  refine lv_iconst (v := 1) hx hb dL_law_1301 (by decide) ?_
  refine lv_iadd hx hb dL_law_1302 ?_
  refine lv_topi (fun r1 h2 => ?_)
  have f3 : r1.toInt = x3.toInt + 1 := z_iadd h2 rfl (show Int32.toInt 1 = 1 from by decide) (by omega) (by omega)
  refine va_sld hx hb hXs hbl hbA hS (z_in rfl (by omega) (by omega)) dL_law_1303 ?_
  refine lv_topi (fun a4 h5 => ?_)
  refine f_fini (va_runV (As := [.int a4]) (rest := []) ⟨hx, hb, hml, hown, hts⟩ (q_X8_only l dC dI cB cI cJ cZ cP cQ adK adV q0 a1 H.size ob w1 a4 I1) (cwV 1 hts gT_X8_only rfl rfl rfl (by decide +kernel) ⟨Nat.le_of_ble_eq_true rfl, Nat.le_of_ble_eq_true rfl⟩) (f_pV (ci := 8) hE hS hA hK hP hD hX rfl (IX_recv I1)) rfl rfl hl.1 rfl (lv_room (Nat.le_of_ble_eq_true rfl)) dL_law_1304 ⟨by show _ + 0 ≤ 600000; omega, by show _ + 0 ≤ 7302250; omega⟩) hP hD hS hA (fun r6 w1 H locs hp hP hD hS => ?_)
  obtain ⟨I1, h7⟩ := hp
  refine lv_pop hx hb dL_law_1307 rfl ?_
  refine lv_aload_n hx hb dL_law_1308 rfl (lv_at hl 1 rfl) ?_
  refine lv_aload_n hx hb dL_law_1309 rfl (lv_at hl 3 rfl) ?_
  refine lv_iload_n hx hb dL_law_1310 rfl (lv_at hl 0 rfl) ?_
  refine lv_iconst (v := 1) hx hb dL_law_1311 (by decide) ?_
  refine lv_iadd hx hb dL_law_1312 ?_
  refine lv_topi (fun r8 h9 => ?_)
  have f10 : r8.toInt = x3.toInt + 1 := z_iadd h9 rfl (show Int32.toInt 1 = 1 from by decide) (by omega) (by omega)
  refine va_sld hx hb hXs hbl hbA hS (z_in rfl (by omega) (by omega)) dL_law_1313 ?_
  refine lv_topi (fun a11 h12 => ?_)
  have hP : va_P (dC, dI) vwCl (w2 ++ w1) H := f_Pm List.perm_append_comm hP
  have hD : va_D (fun q : Nat => s.heap.size ≤ q) (w2 ++ w1) := f_Dm List.perm_append_comm hD
  refine f_fini (va_runV (As := [.int a11]) (rest := []) ⟨hx, hb, hml, hown, hts⟩ (q_X9_only l dC dI cB cI cJ cZ cP cQ adK adV q0 a2 H.size ob w2 a11 I2) (cwV 1 hts gT_X9_only rfl rfl rfl (by decide +kernel) ⟨Nat.le_of_ble_eq_true rfl, Nat.le_of_ble_eq_true rfl⟩) (f_pV (ci := 9) hE hS hA hK hP hD hX rfl (IM_recv I2)) rfl rfl hl.1 rfl (lv_room (Nat.le_of_ble_eq_true rfl)) dL_law_1314 ⟨by show _ + 0 ≤ 600000; omega, by show _ + 0 ≤ 7302250; omega⟩) hP hD hS hA (fun r13 w2 H locs hp hP hD hS => ?_)
  obtain ⟨I2, h14⟩ := hp
  have hP : va_P (dC, dI) vwCl (w1 ++ w2) H := f_Pm List.perm_append_comm hP
  have hD : va_D (fun q : Nat => s.heap.size ≤ q) (w1 ++ w2) := f_Dm List.perm_append_comm hD
  refine lv_pop hx hb dL_law_1317 rfl ?_
  refine lv_goto (tgt := 1615) hx hb dL_law_1318 (by decide) ?_
  refine W.widen (k := cells + 18) (n := slots + 1522) (by omega) (by omega) ?_
  exact kk ob w1 w2 H locs ls I1 I2 hP hD hS (lv_sub hl [0, 1, 2, 3] rfl)
set_option maxHeartbeats 8000000 in
set_option maxRecDepth 100000 in
theorem law_case35 {p : Program} {e : Env} {s : State} {m : MethodId} {below : List Frame} {meth : Method} {c : Code} {b L : Nat} {xs : Nat → Int32} (l : Launch) (dC : Nat → ClassId) (dI : Nat → Nat → Nat) (cB cI cJ cZ cP cQ : ClassId) (adK adV : Nat → Nat) (q0 : Option Nat) (a1 a2 : Nat) (x3 : Int32) (C0 : lw_At p s m meth c b L xs) (hL : L ≤ 3072) (hK : va_K (dC, dI) vwCl (zT cB cI cJ cZ cP cQ) s) (hX : zX zNW zAO s) (hE : zE adK adV q0 (fun q : Nat => s.heap.size ≤ q) s s.heap) (i cells slots : Nat) (hi : x3.toInt = i) (hiL : i + 6 ≤ L) (hc : cells + 18 ≤ 600000) (hs : slots + 1522 ≤ 7302250) (ob : Nat → Int32) (w1 w2 : va_W) (I1 : IX cB cI cJ cZ cP cQ a1 ob w1) (I2 : IM cB cI cJ cZ cP cQ a2 ob w2) (H : Heap) (locs : List Loc) (hP : va_P (dC, dI) vwCl (w1 ++ w2) H) (hD : va_D (fun q : Nat => s.heap.size ≤ q) (w1 ++ w2)) (hS : va_S (fun q : Nat => s.heap.size ≤ q) s.heap H locs) (ls : Array Slot) (hl : lv_has ls 4 [(3, .int x3), (2, .ref a2), (1, .ref a1), (0, .ref b)]) (kk : ∀ (ob : Nat → Int32) (w1 w2 : va_W) (H : Heap) (locs : List Loc) (ls : Array Slot), IX cB cI cJ cZ cP cQ a1 ob w1 → IM cB cI cJ cZ cP cQ a2 ob w2 → va_P (dC, dI) vwCl (w1 ++ w2) H → va_D (fun q : Nat => s.heap.size ≤ q) (w1 ++ w2) → va_S (fun q : Nat => s.heap.size ≤ q) s.heap H locs → lv_has ls 4 [(3, .int x3), (2, .ref a2), (1, .ref a1), (0, .ref b)] → W p l e room_1 s m #[Value.ref b] below meth c H locs (cells + 18) (slots + 1522) (lw_Z below #[Value.ref b] s) (F0 m 1615 ls [])) : W p l e room_1 s m #[Value.ref b] below meth c H locs cells slots (lw_Z below #[Value.ref b] s) (F0 m 1321 ls []) := by
  obtain ⟨hx, hb, hr, hml, hown, hts, hXs, hbl, hlocks, hgv⟩ := id C0
  have hown : s.vm.findClass RL = some m.cls := hown
  have hA : ∀ q : Nat, s.heap.size ≤ q → (fun q : Nat => s.heap.size ≤ q) q := fun _ h => h
  have hbA : ¬ (fun q : Nat => s.heap.size ≤ q) b := Nat.not_le.mpr hbl
  refine lv_aload_n hx hb dL_law_1321 rfl (lv_at hl 2 rfl) ?_
  refine lv_aload_n hx hb dL_law_1322 rfl (lv_at hl 3 rfl) ?_
  refine lv_iload_n hx hb dL_law_1323 rfl (lv_at hl 0 rfl) ?_
  refine lv_iconst (v := 1) hx hb dL_law_1324 (by decide) ?_
  refine lv_iadd hx hb dL_law_1325 ?_
  refine lv_topi (fun r1 h2 => ?_)
  have f3 : r1.toInt = x3.toInt + 1 := z_iadd h2 rfl (show Int32.toInt 1 = 1 from by decide) (by omega) (by omega)
  refine va_sld hx hb hXs hbl hbA hS (z_in rfl (by omega) (by omega)) dL_law_1326 ?_
  refine lv_topi (fun a4 h5 => ?_)
  refine f_fini (va_runV (As := [.int a4]) (rest := []) ⟨hx, hb, hml, hown, hts⟩ (q_X8_judge l dC dI cB cI cJ cZ cP cQ adK adV q0 a1 H.size ob w1 a4 I1) (cwV 1 hts gT_X8_judge rfl rfl rfl (by decide +kernel) ⟨Nat.le_of_ble_eq_true rfl, Nat.le_of_ble_eq_true rfl⟩) (f_pV (ci := 8) hE hS hA hK hP hD hX rfl (IX_recv I1)) rfl rfl hl.1 rfl (lv_room (Nat.le_of_ble_eq_true rfl)) dL_law_1327 ⟨by show _ + 0 ≤ 600000; omega, by show _ + 0 ≤ 7302250; omega⟩) hP hD hS hA (fun r6 w1 H locs hp hP hD hS => ?_)
  obtain ⟨I1, h7⟩ := hp
  refine lv_pop hx hb dL_law_1330 rfl ?_
  refine lv_aload_n hx hb dL_law_1331 rfl (lv_at hl 1 rfl) ?_
  refine lv_aload_n hx hb dL_law_1332 rfl (lv_at hl 3 rfl) ?_
  refine lv_iload_n hx hb dL_law_1333 rfl (lv_at hl 0 rfl) ?_
  refine lv_iconst (v := 1) hx hb dL_law_1334 (by decide) ?_
  refine lv_iadd hx hb dL_law_1335 ?_
  refine lv_topi (fun r8 h9 => ?_)
  have f10 : r8.toInt = x3.toInt + 1 := z_iadd h9 rfl (show Int32.toInt 1 = 1 from by decide) (by omega) (by omega)
  refine va_sld hx hb hXs hbl hbA hS (z_in rfl (by omega) (by omega)) dL_law_1336 ?_
  refine lv_topi (fun a11 h12 => ?_)
  have hP : va_P (dC, dI) vwCl (w2 ++ w1) H := f_Pm List.perm_append_comm hP
  have hD : va_D (fun q : Nat => s.heap.size ≤ q) (w2 ++ w1) := f_Dm List.perm_append_comm hD
  refine f_fini (va_runV (As := [.int a11]) (rest := []) ⟨hx, hb, hml, hown, hts⟩ (q_X9_judge l dC dI cB cI cJ cZ cP cQ adK adV q0 a2 H.size ob w2 a11 I2) (cwV 1 hts gT_X9_judge rfl rfl rfl (by decide +kernel) ⟨Nat.le_of_ble_eq_true rfl, Nat.le_of_ble_eq_true rfl⟩) (f_pV (ci := 9) hE hS hA hK hP hD hX rfl (IM_recv I2)) rfl rfl hl.1 rfl (lv_room (Nat.le_of_ble_eq_true rfl)) dL_law_1337 ⟨by show _ + 0 ≤ 600000; omega, by show _ + 0 ≤ 7302250; omega⟩) hP hD hS hA (fun r13 w2 H locs hp hP hD hS => ?_)
  obtain ⟨I2, h14⟩ := hp
  have hP : va_P (dC, dI) vwCl (w1 ++ w2) H := f_Pm List.perm_append_comm hP
  have hD : va_D (fun q : Nat => s.heap.size ≤ q) (w1 ++ w2) := f_Dm List.perm_append_comm hD
  refine lv_pop hx hb dL_law_1340 rfl ?_
  refine lv_goto (tgt := 1615) hx hb dL_law_1341 (by decide) ?_
  refine W.widen (k := cells + 18) (n := slots + 1522) (by omega) (by omega) ?_
  exact kk ob w1 w2 H locs ls I1 I2 hP hD hS (lv_sub hl [0, 1, 2, 3] rfl)
set_option maxHeartbeats 8000000 in
set_option maxRecDepth 100000 in
theorem law_case36 {p : Program} {e : Env} {s : State} {m : MethodId} {below : List Frame} {meth : Method} {c : Code} {b L : Nat} {xs : Nat → Int32} (l : Launch) (dC : Nat → ClassId) (dI : Nat → Nat → Nat) (cB cI cJ cZ cP cQ : ClassId) (adK adV : Nat → Nat) (q0 : Option Nat) (a1 a2 : Nat) (x3 : Int32) (C0 : lw_At p s m meth c b L xs) (hL : L ≤ 3072) (hK : va_K (dC, dI) vwCl (zT cB cI cJ cZ cP cQ) s) (hX : zX zNW zAO s) (hE : zE adK adV q0 (fun q : Nat => s.heap.size ≤ q) s s.heap) (i cells slots : Nat) (hi : x3.toInt = i) (hiL : i + 6 ≤ L) (hc : cells + 18 ≤ 600000) (hs : slots + 1522 ≤ 7302250) (ob : Nat → Int32) (w1 w2 : va_W) (I1 : IX cB cI cJ cZ cP cQ a1 ob w1) (I2 : IM cB cI cJ cZ cP cQ a2 ob w2) (H : Heap) (locs : List Loc) (hP : va_P (dC, dI) vwCl (w1 ++ w2) H) (hD : va_D (fun q : Nat => s.heap.size ≤ q) (w1 ++ w2)) (hS : va_S (fun q : Nat => s.heap.size ≤ q) s.heap H locs) (ls : Array Slot) (hl : lv_has ls 4 [(3, .int x3), (2, .ref a2), (1, .ref a1), (0, .ref b)]) (kk : ∀ (ob : Nat → Int32) (w1 w2 : va_W) (H : Heap) (locs : List Loc) (ls : Array Slot), IX cB cI cJ cZ cP cQ a1 ob w1 → IM cB cI cJ cZ cP cQ a2 ob w2 → va_P (dC, dI) vwCl (w1 ++ w2) H → va_D (fun q : Nat => s.heap.size ≤ q) (w1 ++ w2) → va_S (fun q : Nat => s.heap.size ≤ q) s.heap H locs → lv_has ls 4 [(3, .int x3), (2, .ref a2), (1, .ref a1), (0, .ref b)] → W p l e room_1 s m #[Value.ref b] below meth c H locs (cells + 18) (slots + 1522) (lw_Z below #[Value.ref b] s) (F0 m 1615 ls [])) : W p l e room_1 s m #[Value.ref b] below meth c H locs cells slots (lw_Z below #[Value.ref b] s) (F0 m 1344 ls []) := by
  obtain ⟨hx, hb, hr, hml, hown, hts, hXs, hbl, hlocks, hgv⟩ := id C0
  have hown : s.vm.findClass RL = some m.cls := hown
  have hA : ∀ q : Nat, s.heap.size ≤ q → (fun q : Nat => s.heap.size ≤ q) q := fun _ h => h
  have hbA : ¬ (fun q : Nat => s.heap.size ≤ q) b := Nat.not_le.mpr hbl
  refine lv_aload_n hx hb dL_law_1344 rfl (lv_at hl 2 rfl) ?_
  refine lv_aload_n hx hb dL_law_1345 rfl (lv_at hl 3 rfl) ?_
  refine lv_iload_n hx hb dL_law_1346 rfl (lv_at hl 0 rfl) ?_
  refine lv_iconst (v := 1) hx hb dL_law_1347 (by decide) ?_
  refine lv_iadd hx hb dL_law_1348 ?_
  refine lv_topi (fun r1 h2 => ?_)
  have f3 : r1.toInt = x3.toInt + 1 := z_iadd h2 rfl (show Int32.toInt 1 = 1 from by decide) (by omega) (by omega)
  refine va_sld hx hb hXs hbl hbA hS (z_in rfl (by omega) (by omega)) dL_law_1349 ?_
  refine lv_topi (fun a4 h5 => ?_)
  refine f_fini (va_runV (As := [.int a4]) (rest := []) ⟨hx, hb, hml, hown, hts⟩ (q_X8_sheets l dC dI cB cI cJ cZ cP cQ adK adV q0 a1 H.size ob w1 a4 I1) (cwV 1 hts gT_X8_sheets rfl rfl rfl (by decide +kernel) ⟨Nat.le_of_ble_eq_true rfl, Nat.le_of_ble_eq_true rfl⟩) (f_pV (ci := 8) hE hS hA hK hP hD hX rfl (IX_recv I1)) rfl rfl hl.1 rfl (lv_room (Nat.le_of_ble_eq_true rfl)) dL_law_1350 ⟨by show _ + 0 ≤ 600000; omega, by show _ + 0 ≤ 7302250; omega⟩) hP hD hS hA (fun r6 w1 H locs hp hP hD hS => ?_)
  obtain ⟨I1, h7⟩ := hp
  refine lv_pop hx hb dL_law_1353 rfl ?_
  refine lv_aload_n hx hb dL_law_1354 rfl (lv_at hl 1 rfl) ?_
  refine lv_aload_n hx hb dL_law_1355 rfl (lv_at hl 3 rfl) ?_
  refine lv_iload_n hx hb dL_law_1356 rfl (lv_at hl 0 rfl) ?_
  refine lv_iconst (v := 1) hx hb dL_law_1357 (by decide) ?_
  refine lv_iadd hx hb dL_law_1358 ?_
  refine lv_topi (fun r8 h9 => ?_)
  have f10 : r8.toInt = x3.toInt + 1 := z_iadd h9 rfl (show Int32.toInt 1 = 1 from by decide) (by omega) (by omega)
  refine va_sld hx hb hXs hbl hbA hS (z_in rfl (by omega) (by omega)) dL_law_1359 ?_
  refine lv_topi (fun a11 h12 => ?_)
  have hP : va_P (dC, dI) vwCl (w2 ++ w1) H := f_Pm List.perm_append_comm hP
  have hD : va_D (fun q : Nat => s.heap.size ≤ q) (w2 ++ w1) := f_Dm List.perm_append_comm hD
  refine f_fini (va_runV (As := [.int a11]) (rest := []) ⟨hx, hb, hml, hown, hts⟩ (q_X9_sheets l dC dI cB cI cJ cZ cP cQ adK adV q0 a2 H.size ob w2 a11 I2) (cwV 1 hts gT_X9_sheets rfl rfl rfl (by decide +kernel) ⟨Nat.le_of_ble_eq_true rfl, Nat.le_of_ble_eq_true rfl⟩) (f_pV (ci := 9) hE hS hA hK hP hD hX rfl (IM_recv I2)) rfl rfl hl.1 rfl (lv_room (Nat.le_of_ble_eq_true rfl)) dL_law_1360 ⟨by show _ + 0 ≤ 600000; omega, by show _ + 0 ≤ 7302250; omega⟩) hP hD hS hA (fun r13 w2 H locs hp hP hD hS => ?_)
  obtain ⟨I2, h14⟩ := hp
  have hP : va_P (dC, dI) vwCl (w1 ++ w2) H := f_Pm List.perm_append_comm hP
  have hD : va_D (fun q : Nat => s.heap.size ≤ q) (w1 ++ w2) := f_Dm List.perm_append_comm hD
  refine lv_pop hx hb dL_law_1363 rfl ?_
  refine lv_goto (tgt := 1615) hx hb dL_law_1364 (by decide) ?_
  refine W.widen (k := cells + 18) (n := slots + 1522) (by omega) (by omega) ?_
  exact kk ob w1 w2 H locs ls I1 I2 hP hD hS (lv_sub hl [0, 1, 2, 3] rfl)
set_option maxHeartbeats 8000000 in
set_option maxRecDepth 100000 in
theorem law_case37 {p : Program} {e : Env} {s : State} {m : MethodId} {below : List Frame} {meth : Method} {c : Code} {b L : Nat} {xs : Nat → Int32} (l : Launch) (dC : Nat → ClassId) (dI : Nat → Nat → Nat) (cB cI cJ cZ cP cQ : ClassId) (adK adV : Nat → Nat) (q0 : Option Nat) (a1 a2 : Nat) (x3 : Int32) (C0 : lw_At p s m meth c b L xs) (hL : L ≤ 3072) (hK : va_K (dC, dI) vwCl (zT cB cI cJ cZ cP cQ) s) (hX : zX zNW zAO s) (hE : zE adK adV q0 (fun q : Nat => s.heap.size ≤ q) s s.heap) (i cells slots : Nat) (hi : x3.toInt = i) (hiL : i + 6 ≤ L) (hc : cells + 18 ≤ 600000) (hs : slots + 1522 ≤ 7302250) (ob : Nat → Int32) (w1 w2 : va_W) (I1 : IX cB cI cJ cZ cP cQ a1 ob w1) (I2 : IM cB cI cJ cZ cP cQ a2 ob w2) (H : Heap) (locs : List Loc) (hP : va_P (dC, dI) vwCl (w1 ++ w2) H) (hD : va_D (fun q : Nat => s.heap.size ≤ q) (w1 ++ w2)) (hS : va_S (fun q : Nat => s.heap.size ≤ q) s.heap H locs) (ls : Array Slot) (hl : lv_has ls 4 [(3, .int x3), (2, .ref a2), (1, .ref a1), (0, .ref b)]) (kk : ∀ (ob : Nat → Int32) (w1 w2 : va_W) (H : Heap) (locs : List Loc) (ls : Array Slot), IX cB cI cJ cZ cP cQ a1 ob w1 → IM cB cI cJ cZ cP cQ a2 ob w2 → va_P (dC, dI) vwCl (w1 ++ w2) H → va_D (fun q : Nat => s.heap.size ≤ q) (w1 ++ w2) → va_S (fun q : Nat => s.heap.size ≤ q) s.heap H locs → lv_has ls 4 [(3, .int x3), (2, .ref a2), (1, .ref a1), (0, .ref b)] → W p l e room_1 s m #[Value.ref b] below meth c H locs (cells + 18) (slots + 1522) (lw_Z below #[Value.ref b] s) (F0 m 1615 ls [])) : W p l e room_1 s m #[Value.ref b] below meth c H locs cells slots (lw_Z below #[Value.ref b] s) (F0 m 1367 ls []) := by
  obtain ⟨hx, hb, hr, hml, hown, hts, hXs, hbl, hlocks, hgv⟩ := id C0
  have hown : s.vm.findClass RL = some m.cls := hown
  have hA : ∀ q : Nat, s.heap.size ≤ q → (fun q : Nat => s.heap.size ≤ q) q := fun _ h => h
  have hbA : ¬ (fun q : Nat => s.heap.size ≤ q) b := Nat.not_le.mpr hbl
  refine lv_aload_n hx hb dL_law_1367 rfl (lv_at hl 2 rfl) ?_
  refine lv_aload_n hx hb dL_law_1368 rfl (lv_at hl 3 rfl) ?_
  refine lv_iload_n hx hb dL_law_1369 rfl (lv_at hl 0 rfl) ?_
  refine lv_iconst (v := 1) hx hb dL_law_1370 (by decide) ?_
  refine lv_iadd hx hb dL_law_1371 ?_
  refine lv_topi (fun r1 h2 => ?_)
  have f3 : r1.toInt = x3.toInt + 1 := z_iadd h2 rfl (show Int32.toInt 1 = 1 from by decide) (by omega) (by omega)
  refine va_sld hx hb hXs hbl hbA hS (z_in rfl (by omega) (by omega)) dL_law_1372 ?_
  refine lv_topi (fun a4 h5 => ?_)
  refine f_fini (va_runV (As := [.int a4]) (rest := []) ⟨hx, hb, hml, hown, hts⟩ (q_X8_count l dC dI cB cI cJ cZ cP cQ adK adV q0 a1 H.size ob w1 a4 I1) (cwV 1 hts gT_X8_count rfl rfl rfl (by decide +kernel) ⟨Nat.le_of_ble_eq_true rfl, Nat.le_of_ble_eq_true rfl⟩) (f_pV (ci := 8) hE hS hA hK hP hD hX rfl (IX_recv I1)) rfl rfl hl.1 rfl (lv_room (Nat.le_of_ble_eq_true rfl)) dL_law_1373 ⟨by show _ + 0 ≤ 600000; omega, by show _ + 0 ≤ 7302250; omega⟩) hP hD hS hA (fun r6 w1 H locs hp hP hD hS => ?_)
  obtain ⟨I1, h7⟩ := hp
  refine lv_pop hx hb dL_law_1376 rfl ?_
  refine lv_aload_n hx hb dL_law_1377 rfl (lv_at hl 1 rfl) ?_
  refine lv_aload_n hx hb dL_law_1378 rfl (lv_at hl 3 rfl) ?_
  refine lv_iload_n hx hb dL_law_1379 rfl (lv_at hl 0 rfl) ?_
  refine lv_iconst (v := 1) hx hb dL_law_1380 (by decide) ?_
  refine lv_iadd hx hb dL_law_1381 ?_
  refine lv_topi (fun r8 h9 => ?_)
  have f10 : r8.toInt = x3.toInt + 1 := z_iadd h9 rfl (show Int32.toInt 1 = 1 from by decide) (by omega) (by omega)
  refine va_sld hx hb hXs hbl hbA hS (z_in rfl (by omega) (by omega)) dL_law_1382 ?_
  refine lv_topi (fun a11 h12 => ?_)
  have hP : va_P (dC, dI) vwCl (w2 ++ w1) H := f_Pm List.perm_append_comm hP
  have hD : va_D (fun q : Nat => s.heap.size ≤ q) (w2 ++ w1) := f_Dm List.perm_append_comm hD
  refine f_fini (va_runV (As := [.int a11]) (rest := []) ⟨hx, hb, hml, hown, hts⟩ (q_X9_count l dC dI cB cI cJ cZ cP cQ adK adV q0 a2 H.size ob w2 a11 I2) (cwV 1 hts gT_X9_count rfl rfl rfl (by decide +kernel) ⟨Nat.le_of_ble_eq_true rfl, Nat.le_of_ble_eq_true rfl⟩) (f_pV (ci := 9) hE hS hA hK hP hD hX rfl (IM_recv I2)) rfl rfl hl.1 rfl (lv_room (Nat.le_of_ble_eq_true rfl)) dL_law_1383 ⟨by show _ + 0 ≤ 600000; omega, by show _ + 0 ≤ 7302250; omega⟩) hP hD hS hA (fun r13 w2 H locs hp hP hD hS => ?_)
  obtain ⟨I2, h14⟩ := hp
  have hP : va_P (dC, dI) vwCl (w1 ++ w2) H := f_Pm List.perm_append_comm hP
  have hD : va_D (fun q : Nat => s.heap.size ≤ q) (w1 ++ w2) := f_Dm List.perm_append_comm hD
  refine lv_pop hx hb dL_law_1386 rfl ?_
  refine lv_goto (tgt := 1615) hx hb dL_law_1387 (by decide) ?_
  refine W.widen (k := cells + 18) (n := slots + 1522) (by omega) (by omega) ?_
  exact kk ob w1 w2 H locs ls I1 I2 hP hD hS (lv_sub hl [0, 1, 2, 3] rfl)
set_option maxHeartbeats 8000000 in
set_option maxRecDepth 100000 in
theorem law_case38 {p : Program} {e : Env} {s : State} {m : MethodId} {below : List Frame} {meth : Method} {c : Code} {b L : Nat} {xs : Nat → Int32} (l : Launch) (dC : Nat → ClassId) (dI : Nat → Nat → Nat) (cB cI cJ cZ cP cQ : ClassId) (adK adV : Nat → Nat) (q0 : Option Nat) (a1 a2 : Nat) (x3 : Int32) (C0 : lw_At p s m meth c b L xs) (hL : L ≤ 3072) (hK : va_K (dC, dI) vwCl (zT cB cI cJ cZ cP cQ) s) (hX : zX zNW zAO s) (hE : zE adK adV q0 (fun q : Nat => s.heap.size ≤ q) s s.heap) (i cells slots : Nat) (hi : x3.toInt = i) (hiL : i + 6 ≤ L) (hc : cells + 18 ≤ 600000) (hs : slots + 1522 ≤ 7302250) (ob : Nat → Int32) (w1 w2 : va_W) (I1 : IX cB cI cJ cZ cP cQ a1 ob w1) (I2 : IM cB cI cJ cZ cP cQ a2 ob w2) (H : Heap) (locs : List Loc) (hP : va_P (dC, dI) vwCl (w1 ++ w2) H) (hD : va_D (fun q : Nat => s.heap.size ≤ q) (w1 ++ w2)) (hS : va_S (fun q : Nat => s.heap.size ≤ q) s.heap H locs) (ls : Array Slot) (hl : lv_has ls 4 [(3, .int x3), (2, .ref a2), (1, .ref a1), (0, .ref b)]) (kk : ∀ (ob : Nat → Int32) (w1 w2 : va_W) (H : Heap) (locs : List Loc) (ls : Array Slot), IX cB cI cJ cZ cP cQ a1 ob w1 → IM cB cI cJ cZ cP cQ a2 ob w2 → va_P (dC, dI) vwCl (w1 ++ w2) H → va_D (fun q : Nat => s.heap.size ≤ q) (w1 ++ w2) → va_S (fun q : Nat => s.heap.size ≤ q) s.heap H locs → lv_has ls 4 [(3, .int x3), (2, .ref a2), (1, .ref a1), (0, .ref b)] → W p l e room_1 s m #[Value.ref b] below meth c H locs (cells + 18) (slots + 1522) (lw_Z below #[Value.ref b] s) (F0 m 1615 ls [])) : W p l e room_1 s m #[Value.ref b] below meth c H locs cells slots (lw_Z below #[Value.ref b] s) (F0 m 1390 ls []) := by
  obtain ⟨hx, hb, hr, hml, hown, hts, hXs, hbl, hlocks, hgv⟩ := id C0
  have hown : s.vm.findClass RL = some m.cls := hown
  have hA : ∀ q : Nat, s.heap.size ≤ q → (fun q : Nat => s.heap.size ≤ q) q := fun _ h => h
  have hbA : ¬ (fun q : Nat => s.heap.size ≤ q) b := Nat.not_le.mpr hbl
  refine lv_aload_n hx hb dL_law_1390 rfl (lv_at hl 2 rfl) ?_
  refine lv_aload_n hx hb dL_law_1391 rfl (lv_at hl 3 rfl) ?_
  refine lv_iload_n hx hb dL_law_1392 rfl (lv_at hl 0 rfl) ?_
  refine lv_iconst (v := 1) hx hb dL_law_1393 (by decide) ?_
  refine lv_iadd hx hb dL_law_1394 ?_
  refine lv_topi (fun r1 h2 => ?_)
  have f3 : r1.toInt = x3.toInt + 1 := z_iadd h2 rfl (show Int32.toInt 1 = 1 from by decide) (by omega) (by omega)
  refine va_sld hx hb hXs hbl hbA hS (z_in rfl (by omega) (by omega)) dL_law_1395 ?_
  refine lv_topi (fun a4 h5 => ?_)
  refine f_fini (va_runV (As := [.int a4]) (rest := []) ⟨hx, hb, hml, hown, hts⟩ (q_X8_keep l dC dI cB cI cJ cZ cP cQ adK adV q0 a1 H.size ob w1 a4 I1) (cwV 1 hts gT_X8_keep rfl rfl rfl (by decide +kernel) ⟨Nat.le_of_ble_eq_true rfl, Nat.le_of_ble_eq_true rfl⟩) (f_pV (ci := 8) hE hS hA hK hP hD hX rfl (IX_recv I1)) rfl rfl hl.1 rfl (lv_room (Nat.le_of_ble_eq_true rfl)) dL_law_1396 ⟨by show _ + 18 ≤ 600000; omega, by show _ + 1522 ≤ 7302250; omega⟩) hP hD hS hA (fun r6 w1 H locs hp hP hD hS => ?_)
  obtain ⟨I1, h7⟩ := hp
  refine lv_pop hx hb dL_law_1399 rfl ?_
  refine lv_aload_n hx hb dL_law_1400 rfl (lv_at hl 1 rfl) ?_
  refine lv_aload_n hx hb dL_law_1401 rfl (lv_at hl 3 rfl) ?_
  refine lv_iload_n hx hb dL_law_1402 rfl (lv_at hl 0 rfl) ?_
  refine lv_iconst (v := 1) hx hb dL_law_1403 (by decide) ?_
  refine lv_iadd hx hb dL_law_1404 ?_
  refine lv_topi (fun r8 h9 => ?_)
  have f10 : r8.toInt = x3.toInt + 1 := z_iadd h9 rfl (show Int32.toInt 1 = 1 from by decide) (by omega) (by omega)
  refine va_sld hx hb hXs hbl hbA hS (z_in rfl (by omega) (by omega)) dL_law_1405 ?_
  refine lv_topi (fun a11 h12 => ?_)
  have hP : va_P (dC, dI) vwCl (w2 ++ w1) H := f_Pm List.perm_append_comm hP
  have hD : va_D (fun q : Nat => s.heap.size ≤ q) (w2 ++ w1) := f_Dm List.perm_append_comm hD
  refine f_fini (va_runV (As := [.int a11]) (rest := []) ⟨hx, hb, hml, hown, hts⟩ (q_X9_keep l dC dI cB cI cJ cZ cP cQ adK adV q0 a2 H.size ob w2 a11 I2) (cwV 1 hts gT_X9_keep rfl rfl rfl (by decide +kernel) ⟨Nat.le_of_ble_eq_true rfl, Nat.le_of_ble_eq_true rfl⟩) (f_pV (ci := 9) hE hS hA hK hP hD hX rfl (IM_recv I2)) rfl rfl hl.1 rfl (lv_room (Nat.le_of_ble_eq_true rfl)) dL_law_1406 ⟨by show _ + 0 ≤ 600000; omega, by show _ + 0 ≤ 7302250; omega⟩) hP hD hS hA (fun r13 w2 H locs hp hP hD hS => ?_)
  obtain ⟨I2, h14⟩ := hp
  have hP : va_P (dC, dI) vwCl (w1 ++ w2) H := f_Pm List.perm_append_comm hP
  have hD : va_D (fun q : Nat => s.heap.size ≤ q) (w1 ++ w2) := f_Dm List.perm_append_comm hD
  refine lv_pop hx hb dL_law_1409 rfl ?_
  refine lv_goto (tgt := 1615) hx hb dL_law_1410 (by decide) ?_
  have e15 : a4 = a11 := by rw [h5, h12, z_clE (x := r1) (y := r8) (by omega)]
  rw [← e15] at I2
  refine W.widen (k := cells + 18) (n := slots + 1522) (by omega) (by omega) ?_
  exact kk (obKeep ob a4) w1 w2 H locs ls I1 I2 hP hD hS (lv_sub hl [0, 1, 2, 3] rfl)
set_option maxHeartbeats 8000000 in
set_option maxRecDepth 100000 in
theorem law_case39 {p : Program} {e : Env} {s : State} {m : MethodId} {below : List Frame} {meth : Method} {c : Code} {b L : Nat} {xs : Nat → Int32} (l : Launch) (dC : Nat → ClassId) (dI : Nat → Nat → Nat) (cB cI cJ cZ cP cQ : ClassId) (adK adV : Nat → Nat) (q0 : Option Nat) (a1 a2 : Nat) (x3 : Int32) (C0 : lw_At p s m meth c b L xs) (hL : L ≤ 3072) (hK : va_K (dC, dI) vwCl (zT cB cI cJ cZ cP cQ) s) (hX : zX zNW zAO s) (hE : zE adK adV q0 (fun q : Nat => s.heap.size ≤ q) s s.heap) (i cells slots : Nat) (hi : x3.toInt = i) (hiL : i + 6 ≤ L) (hc : cells + 18 ≤ 600000) (hs : slots + 1522 ≤ 7302250) (ob : Nat → Int32) (w1 w2 : va_W) (I1 : IX cB cI cJ cZ cP cQ a1 ob w1) (I2 : IM cB cI cJ cZ cP cQ a2 ob w2) (H : Heap) (locs : List Loc) (hP : va_P (dC, dI) vwCl (w1 ++ w2) H) (hD : va_D (fun q : Nat => s.heap.size ≤ q) (w1 ++ w2)) (hS : va_S (fun q : Nat => s.heap.size ≤ q) s.heap H locs) (ls : Array Slot) (hl : lv_has ls 4 [(3, .int x3), (2, .ref a2), (1, .ref a1), (0, .ref b)]) (kk : ∀ (ob : Nat → Int32) (w1 w2 : va_W) (H : Heap) (locs : List Loc) (ls : Array Slot), IX cB cI cJ cZ cP cQ a1 ob w1 → IM cB cI cJ cZ cP cQ a2 ob w2 → va_P (dC, dI) vwCl (w1 ++ w2) H → va_D (fun q : Nat => s.heap.size ≤ q) (w1 ++ w2) → va_S (fun q : Nat => s.heap.size ≤ q) s.heap H locs → lv_has ls 4 [(3, .int x3), (2, .ref a2), (1, .ref a1), (0, .ref b)] → W p l e room_1 s m #[Value.ref b] below meth c H locs (cells + 18) (slots + 1522) (lw_Z below #[Value.ref b] s) (F0 m 1615 ls [])) : W p l e room_1 s m #[Value.ref b] below meth c H locs cells slots (lw_Z below #[Value.ref b] s) (F0 m 1413 ls []) := by
  obtain ⟨hx, hb, hr, hml, hown, hts, hXs, hbl, hlocks, hgv⟩ := id C0
  have hown : s.vm.findClass RL = some m.cls := hown
  have hA : ∀ q : Nat, s.heap.size ≤ q → (fun q : Nat => s.heap.size ≤ q) q := fun _ h => h
  have hbA : ¬ (fun q : Nat => s.heap.size ≤ q) b := Nat.not_le.mpr hbl
  refine lv_aload_n hx hb dL_law_1413 rfl (lv_at hl 2 rfl) ?_
  refine lv_aload_n hx hb dL_law_1414 rfl (lv_at hl 3 rfl) ?_
  refine lv_iload_n hx hb dL_law_1415 rfl (lv_at hl 0 rfl) ?_
  refine lv_iconst (v := 1) hx hb dL_law_1416 (by decide) ?_
  refine lv_iadd hx hb dL_law_1417 ?_
  refine lv_topi (fun r1 h2 => ?_)
  have f3 : r1.toInt = x3.toInt + 1 := z_iadd h2 rfl (show Int32.toInt 1 = 1 from by decide) (by omega) (by omega)
  refine va_sld hx hb hXs hbl hbA hS (z_in rfl (by omega) (by omega)) dL_law_1418 ?_
  refine lv_topi (fun a4 h5 => ?_)
  refine f_fini (va_runV (As := [.int a4]) (rest := []) ⟨hx, hb, hml, hown, hts⟩ (q_X8_back l dC dI cB cI cJ cZ cP cQ adK adV q0 a1 H.size ob w1 a4 I1) (cwV 1 hts gT_X8_back rfl rfl rfl (by decide +kernel) ⟨Nat.le_of_ble_eq_true rfl, Nat.le_of_ble_eq_true rfl⟩) (f_pV (ci := 8) hE hS hA hK hP hD hX rfl (IX_recv I1)) rfl rfl hl.1 rfl (lv_room (Nat.le_of_ble_eq_true rfl)) dL_law_1419 ⟨by show _ + 0 ≤ 600000; omega, by show _ + 0 ≤ 7302250; omega⟩) hP hD hS hA (fun r6 w1 H locs hp hP hD hS => ?_)
  obtain ⟨I1, h7⟩ := hp
  refine lv_pop hx hb dL_law_1422 rfl ?_
  refine lv_aload_n hx hb dL_law_1423 rfl (lv_at hl 1 rfl) ?_
  refine lv_aload_n hx hb dL_law_1424 rfl (lv_at hl 3 rfl) ?_
  refine lv_iload_n hx hb dL_law_1425 rfl (lv_at hl 0 rfl) ?_
  refine lv_iconst (v := 1) hx hb dL_law_1426 (by decide) ?_
  refine lv_iadd hx hb dL_law_1427 ?_
  refine lv_topi (fun r8 h9 => ?_)
  have f10 : r8.toInt = x3.toInt + 1 := z_iadd h9 rfl (show Int32.toInt 1 = 1 from by decide) (by omega) (by omega)
  refine va_sld hx hb hXs hbl hbA hS (z_in rfl (by omega) (by omega)) dL_law_1428 ?_
  refine lv_topi (fun a11 h12 => ?_)
  have hP : va_P (dC, dI) vwCl (w2 ++ w1) H := f_Pm List.perm_append_comm hP
  have hD : va_D (fun q : Nat => s.heap.size ≤ q) (w2 ++ w1) := f_Dm List.perm_append_comm hD
  refine f_fini (va_runV (As := [.int a11]) (rest := []) ⟨hx, hb, hml, hown, hts⟩ (q_X9_back l dC dI cB cI cJ cZ cP cQ adK adV q0 a2 H.size ob w2 a11 I2) (cwV 1 hts gT_X9_back rfl rfl rfl (by decide +kernel) ⟨Nat.le_of_ble_eq_true rfl, Nat.le_of_ble_eq_true rfl⟩) (f_pV (ci := 9) hE hS hA hK hP hD hX rfl (IM_recv I2)) rfl rfl hl.1 rfl (lv_room (Nat.le_of_ble_eq_true rfl)) dL_law_1429 ⟨by show _ + 0 ≤ 600000; omega, by show _ + 0 ≤ 7302250; omega⟩) hP hD hS hA (fun r13 w2 H locs hp hP hD hS => ?_)
  obtain ⟨I2, h14⟩ := hp
  have hP : va_P (dC, dI) vwCl (w1 ++ w2) H := f_Pm List.perm_append_comm hP
  have hD : va_D (fun q : Nat => s.heap.size ≤ q) (w1 ++ w2) := f_Dm List.perm_append_comm hD
  refine lv_pop hx hb dL_law_1432 rfl ?_
  refine lv_goto (tgt := 1615) hx hb dL_law_1433 (by decide) ?_
  refine W.widen (k := cells + 18) (n := slots + 1522) (by omega) (by omega) ?_
  exact kk ob w1 w2 H locs ls I1 I2 hP hD hS (lv_sub hl [0, 1, 2, 3] rfl)
set_option maxHeartbeats 8000000 in
set_option maxRecDepth 100000 in
theorem law_case40 {p : Program} {e : Env} {s : State} {m : MethodId} {below : List Frame} {meth : Method} {c : Code} {b L : Nat} {xs : Nat → Int32} (l : Launch) (dC : Nat → ClassId) (dI : Nat → Nat → Nat) (cB cI cJ cZ cP cQ : ClassId) (adK adV : Nat → Nat) (q0 : Option Nat) (a1 a2 : Nat) (x3 : Int32) (C0 : lw_At p s m meth c b L xs) (hL : L ≤ 3072) (hK : va_K (dC, dI) vwCl (zT cB cI cJ cZ cP cQ) s) (hX : zX zNW zAO s) (hE : zE adK adV q0 (fun q : Nat => s.heap.size ≤ q) s s.heap) (i cells slots : Nat) (hi : x3.toInt = i) (hiL : i + 6 ≤ L) (hc : cells + 18 ≤ 600000) (hs : slots + 1522 ≤ 7302250) (ob : Nat → Int32) (w1 w2 : va_W) (I1 : IX cB cI cJ cZ cP cQ a1 ob w1) (I2 : IM cB cI cJ cZ cP cQ a2 ob w2) (H : Heap) (locs : List Loc) (hP : va_P (dC, dI) vwCl (w1 ++ w2) H) (hD : va_D (fun q : Nat => s.heap.size ≤ q) (w1 ++ w2)) (hS : va_S (fun q : Nat => s.heap.size ≤ q) s.heap H locs) (ls : Array Slot) (hl : lv_has ls 4 [(3, .int x3), (2, .ref a2), (1, .ref a1), (0, .ref b)]) (kk : ∀ (ob : Nat → Int32) (w1 w2 : va_W) (H : Heap) (locs : List Loc) (ls : Array Slot), IX cB cI cJ cZ cP cQ a1 ob w1 → IM cB cI cJ cZ cP cQ a2 ob w2 → va_P (dC, dI) vwCl (w1 ++ w2) H → va_D (fun q : Nat => s.heap.size ≤ q) (w1 ++ w2) → va_S (fun q : Nat => s.heap.size ≤ q) s.heap H locs → lv_has ls 4 [(3, .int x3), (2, .ref a2), (1, .ref a1), (0, .ref b)] → W p l e room_1 s m #[Value.ref b] below meth c H locs (cells + 18) (slots + 1522) (lw_Z below #[Value.ref b] s) (F0 m 1615 ls [])) : W p l e room_1 s m #[Value.ref b] below meth c H locs cells slots (lw_Z below #[Value.ref b] s) (F0 m 1436 ls []) := by
  obtain ⟨hx, hb, hr, hml, hown, hts, hXs, hbl, hlocks, hgv⟩ := id C0
  have hown : s.vm.findClass RL = some m.cls := hown
  have hA : ∀ q : Nat, s.heap.size ≤ q → (fun q : Nat => s.heap.size ≤ q) q := fun _ h => h
  have hbA : ¬ (fun q : Nat => s.heap.size ≤ q) b := Nat.not_le.mpr hbl
  refine lv_aload_n hx hb dL_law_1436 rfl (lv_at hl 2 rfl) ?_
  refine lv_aload_n hx hb dL_law_1437 rfl (lv_at hl 3 rfl) ?_
  refine lv_iload_n hx hb dL_law_1438 rfl (lv_at hl 0 rfl) ?_
  refine lv_iconst (v := 1) hx hb dL_law_1439 (by decide) ?_
  refine lv_iadd hx hb dL_law_1440 ?_
  refine lv_topi (fun r1 h2 => ?_)
  have f3 : r1.toInt = x3.toInt + 1 := z_iadd h2 rfl (show Int32.toInt 1 = 1 from by decide) (by omega) (by omega)
  refine va_sld hx hb hXs hbl hbA hS (z_in rfl (by omega) (by omega)) dL_law_1441 ?_
  refine lv_topi (fun a4 h5 => ?_)
  refine lv_aload_n hx hb dL_law_1442 rfl (lv_at hl 3 rfl) ?_
  refine lv_iload_n hx hb dL_law_1443 rfl (lv_at hl 0 rfl) ?_
  refine lv_iconst (v := 2) hx hb dL_law_1444 (by decide) ?_
  refine lv_iadd hx hb dL_law_1445 ?_
  refine lv_topi (fun r6 h7 => ?_)
  have f8 : r6.toInt = x3.toInt + 2 := z_iadd h7 rfl (show Int32.toInt 2 = 2 from by decide) (by omega) (by omega)
  refine va_sld hx hb hXs hbl hbA hS (z_in rfl (by omega) (by omega)) dL_law_1446 ?_
  refine lv_topi (fun a9 h10 => ?_)
  refine lv_aload_n hx hb dL_law_1447 rfl (lv_at hl 3 rfl) ?_
  refine lv_iload_n hx hb dL_law_1448 rfl (lv_at hl 0 rfl) ?_
  refine lv_iconst (v := 3) hx hb dL_law_1449 (by decide) ?_
  refine lv_iadd hx hb dL_law_1450 ?_
  refine lv_topi (fun r11 h12 => ?_)
  have f13 : r11.toInt = x3.toInt + 3 := z_iadd h12 rfl (show Int32.toInt 3 = 3 from by decide) (by omega) (by omega)
  refine va_sld hx hb hXs hbl hbA hS (z_in rfl (by omega) (by omega)) dL_law_1451 ?_
  refine lv_topi (fun a14 h15 => ?_)
  refine f_fini (va_runV (As := [.int a4, .int a9, .int a14]) (rest := []) ⟨hx, hb, hml, hown, hts⟩ (q_X8_row l dC dI cB cI cJ cZ cP cQ adK adV q0 a1 H.size ob w1 a4 a9 a14 I1) (cwV 3 hts gT_X8_row rfl rfl rfl (by decide +kernel) ⟨Nat.le_of_ble_eq_true rfl, Nat.le_of_ble_eq_true rfl⟩) (f_pV (ci := 8) hE hS hA hK hP hD hX rfl (IX_recv I1)) rfl rfl hl.1 rfl (lv_room (Nat.le_of_ble_eq_true rfl)) dL_law_1452 ⟨by show _ + 0 ≤ 600000; omega, by show _ + 0 ≤ 7302250; omega⟩) hP hD hS hA (fun r16 w1 H locs hp hP hD hS => ?_)
  obtain ⟨I1, h17⟩ := hp
  refine lv_pop hx hb dL_law_1455 rfl ?_
  refine lv_aload_n hx hb dL_law_1456 rfl (lv_at hl 1 rfl) ?_
  refine lv_aload_n hx hb dL_law_1457 rfl (lv_at hl 3 rfl) ?_
  refine lv_iload_n hx hb dL_law_1458 rfl (lv_at hl 0 rfl) ?_
  refine lv_iconst (v := 1) hx hb dL_law_1459 (by decide) ?_
  refine lv_iadd hx hb dL_law_1460 ?_
  refine lv_topi (fun r18 h19 => ?_)
  have f20 : r18.toInt = x3.toInt + 1 := z_iadd h19 rfl (show Int32.toInt 1 = 1 from by decide) (by omega) (by omega)
  refine va_sld hx hb hXs hbl hbA hS (z_in rfl (by omega) (by omega)) dL_law_1461 ?_
  refine lv_topi (fun a21 h22 => ?_)
  refine lv_aload_n hx hb dL_law_1462 rfl (lv_at hl 3 rfl) ?_
  refine lv_iload_n hx hb dL_law_1463 rfl (lv_at hl 0 rfl) ?_
  refine lv_iconst (v := 2) hx hb dL_law_1464 (by decide) ?_
  refine lv_iadd hx hb dL_law_1465 ?_
  refine lv_topi (fun r23 h24 => ?_)
  have f25 : r23.toInt = x3.toInt + 2 := z_iadd h24 rfl (show Int32.toInt 2 = 2 from by decide) (by omega) (by omega)
  refine va_sld hx hb hXs hbl hbA hS (z_in rfl (by omega) (by omega)) dL_law_1466 ?_
  refine lv_topi (fun a26 h27 => ?_)
  refine lv_aload_n hx hb dL_law_1467 rfl (lv_at hl 3 rfl) ?_
  refine lv_iload_n hx hb dL_law_1468 rfl (lv_at hl 0 rfl) ?_
  refine lv_iconst (v := 3) hx hb dL_law_1469 (by decide) ?_
  refine lv_iadd hx hb dL_law_1470 ?_
  refine lv_topi (fun r28 h29 => ?_)
  have f30 : r28.toInt = x3.toInt + 3 := z_iadd h29 rfl (show Int32.toInt 3 = 3 from by decide) (by omega) (by omega)
  refine va_sld hx hb hXs hbl hbA hS (z_in rfl (by omega) (by omega)) dL_law_1471 ?_
  refine lv_topi (fun a31 h32 => ?_)
  have hP : va_P (dC, dI) vwCl (w2 ++ w1) H := f_Pm List.perm_append_comm hP
  have hD : va_D (fun q : Nat => s.heap.size ≤ q) (w2 ++ w1) := f_Dm List.perm_append_comm hD
  refine f_fini (va_runV (As := [.int a21, .int a26, .int a31]) (rest := []) ⟨hx, hb, hml, hown, hts⟩ (q_X9_row l dC dI cB cI cJ cZ cP cQ adK adV q0 a2 H.size ob w2 a21 a26 a31 I2) (cwV 3 hts gT_X9_row rfl rfl rfl (by decide +kernel) ⟨Nat.le_of_ble_eq_true rfl, Nat.le_of_ble_eq_true rfl⟩) (f_pV (ci := 9) hE hS hA hK hP hD hX rfl (IM_recv I2)) rfl rfl hl.1 rfl (lv_room (Nat.le_of_ble_eq_true rfl)) dL_law_1472 ⟨by show _ + 0 ≤ 600000; omega, by show _ + 0 ≤ 7302250; omega⟩) hP hD hS hA (fun r33 w2 H locs hp hP hD hS => ?_)
  obtain ⟨I2, h34⟩ := hp
  have hP : va_P (dC, dI) vwCl (w1 ++ w2) H := f_Pm List.perm_append_comm hP
  have hD : va_D (fun q : Nat => s.heap.size ≤ q) (w1 ++ w2) := f_Dm List.perm_append_comm hD
  refine lv_pop hx hb dL_law_1475 rfl ?_
  refine lv_goto (tgt := 1615) hx hb dL_law_1476 (by decide) ?_
  have e35 : a4 = a21 := by rw [h5, h22, z_clE (x := r1) (y := r18) (by omega)]
  have e36 : a9 = a26 := by rw [h10, h27, z_clE (x := r6) (y := r23) (by omega)]
  have e37 : a14 = a31 := by rw [h15, h32, z_clE (x := r11) (y := r28) (by omega)]
  rw [← e35, ← e36, ← e37] at I2
  refine W.widen (k := cells + 18) (n := slots + 1522) (by omega) (by omega) ?_
  exact kk (obRow ob a4 a9 a14) w1 w2 H locs ls I1 I2 hP hD hS (lv_sub hl [0, 1, 2, 3] rfl)
set_option maxHeartbeats 8000000 in
set_option maxRecDepth 100000 in
theorem law_case41 {p : Program} {e : Env} {s : State} {m : MethodId} {below : List Frame} {meth : Method} {c : Code} {b L : Nat} {xs : Nat → Int32} (l : Launch) (dC : Nat → ClassId) (dI : Nat → Nat → Nat) (cB cI cJ cZ cP cQ : ClassId) (adK adV : Nat → Nat) (q0 : Option Nat) (a1 a2 : Nat) (x3 : Int32) (C0 : lw_At p s m meth c b L xs) (hL : L ≤ 3072) (hK : va_K (dC, dI) vwCl (zT cB cI cJ cZ cP cQ) s) (hX : zX zNW zAO s) (hE : zE adK adV q0 (fun q : Nat => s.heap.size ≤ q) s s.heap) (i cells slots : Nat) (hi : x3.toInt = i) (hiL : i + 6 ≤ L) (hc : cells + 18 ≤ 600000) (hs : slots + 1522 ≤ 7302250) (ob : Nat → Int32) (w1 w2 : va_W) (I1 : IX cB cI cJ cZ cP cQ a1 ob w1) (I2 : IM cB cI cJ cZ cP cQ a2 ob w2) (H : Heap) (locs : List Loc) (hP : va_P (dC, dI) vwCl (w1 ++ w2) H) (hD : va_D (fun q : Nat => s.heap.size ≤ q) (w1 ++ w2)) (hS : va_S (fun q : Nat => s.heap.size ≤ q) s.heap H locs) (ls : Array Slot) (hl : lv_has ls 4 [(3, .int x3), (2, .ref a2), (1, .ref a1), (0, .ref b)]) (kk : ∀ (ob : Nat → Int32) (w1 w2 : va_W) (H : Heap) (locs : List Loc) (ls : Array Slot), IX cB cI cJ cZ cP cQ a1 ob w1 → IM cB cI cJ cZ cP cQ a2 ob w2 → va_P (dC, dI) vwCl (w1 ++ w2) H → va_D (fun q : Nat => s.heap.size ≤ q) (w1 ++ w2) → va_S (fun q : Nat => s.heap.size ≤ q) s.heap H locs → lv_has ls 4 [(3, .int x3), (2, .ref a2), (1, .ref a1), (0, .ref b)] → W p l e room_1 s m #[Value.ref b] below meth c H locs (cells + 18) (slots + 1522) (lw_Z below #[Value.ref b] s) (F0 m 1615 ls [])) : W p l e room_1 s m #[Value.ref b] below meth c H locs cells slots (lw_Z below #[Value.ref b] s) (F0 m 1479 ls []) := by
  obtain ⟨hx, hb, hr, hml, hown, hts, hXs, hbl, hlocks, hgv⟩ := id C0
  have hown : s.vm.findClass RL = some m.cls := hown
  have hA : ∀ q : Nat, s.heap.size ≤ q → (fun q : Nat => s.heap.size ≤ q) q := fun _ h => h
  have hbA : ¬ (fun q : Nat => s.heap.size ≤ q) b := Nat.not_le.mpr hbl
  have hk0 := hts (.constantLong RL 187 4294967295) (by decide +kernel)
  refine lv_aload_n hx hb dL_law_1479 rfl (lv_at hl 2 rfl) ?_
  refine lv_aload_n hx hb dL_law_1480 rfl (lv_at hl 3 rfl) ?_
  refine lv_iload_n hx hb dL_law_1481 rfl (lv_at hl 0 rfl) ?_
  refine lv_iconst (v := 1) hx hb dL_law_1482 (by decide) ?_
  refine lv_iadd hx hb dL_law_1483 ?_
  refine lv_topi (fun r1 h2 => ?_)
  have f3 : r1.toInt = x3.toInt + 1 := z_iadd h2 rfl (show Int32.toInt 1 = 1 from by decide) (by omega) (by omega)
  refine va_sld hx hb hXs hbl hbA hS (z_in rfl (by omega) (by omega)) dL_law_1484 ?_
  refine lv_topi (fun a4 h5 => ?_)
  refine lv_aload_n hx hb dL_law_1485 rfl (lv_at hl 3 rfl) ?_
  refine lv_iload_n hx hb dL_law_1486 rfl (lv_at hl 0 rfl) ?_
  refine lv_iconst (v := 2) hx hb dL_law_1487 (by decide) ?_
  refine lv_iadd hx hb dL_law_1488 ?_
  refine lv_topi (fun r6 h7 => ?_)
  have f8 : r6.toInt = x3.toInt + 2 := z_iadd h7 rfl (show Int32.toInt 2 = 2 from by decide) (by omega) (by omega)
  refine va_sld hx hb hXs hbl hbA hS (z_in rfl (by omega) (by omega)) dL_law_1489 ?_
  refine lv_topi (fun a9 h10 => ?_)
  refine lv_aload_n hx hb dL_law_1490 rfl (lv_at hl 3 rfl) ?_
  refine lv_iload_n hx hb dL_law_1491 rfl (lv_at hl 0 rfl) ?_
  refine lv_iconst (v := 3) hx hb dL_law_1492 (by decide) ?_
  refine lv_iadd hx hb dL_law_1493 ?_
  refine lv_topi (fun r11 h12 => ?_)
  have f13 : r11.toInt = x3.toInt + 3 := z_iadd h12 rfl (show Int32.toInt 3 = 3 from by decide) (by omega) (by omega)
  refine va_sld hx hb hXs hbl hbA hS (z_in rfl (by omega) (by omega)) dL_law_1494 ?_
  refine lv_topi (fun a14 h15 => ?_)
  refine lv_i2l hx hb dL_law_1495 rfl ?_
  have f16 : -2147483648 ≤ a14.toInt ∧ a14.toInt < 2147483648 := z_rngI rfl
  refine lv_topl (fun r17 h18 => ?_)
  have f19 : r17.toInt = a14.toInt := z_i2lT h18 rfl
  refine lv_bipush (v := 32) hx hb dL_law_1496 (by decide) ?_
  refine lv_lshl hx hb dL_law_1498 rfl ?_
  refine lv_topl (fun r20 _ => ?_)
  refine lv_aload_n hx hb dL_law_1499 rfl (lv_at hl 3 rfl) ?_
  refine lv_iload_n hx hb dL_law_1500 rfl (lv_at hl 0 rfl) ?_
  refine lv_iconst (v := 4) hx hb dL_law_1501 (by decide) ?_
  refine lv_iadd hx hb dL_law_1502 ?_
  refine lv_topi (fun r21 h22 => ?_)
  have f23 : r21.toInt = x3.toInt + 4 := z_iadd h22 rfl (show Int32.toInt 4 = 4 from by decide) (by omega) (by omega)
  refine va_sld hx hb hXs hbl hbA hS (z_in rfl (by omega) (by omega)) dL_law_1503 ?_
  refine lv_topi (fun a24 h25 => ?_)
  refine lv_i2l hx hb dL_law_1504 rfl ?_
  have f26 : -2147483648 ≤ a24.toInt ∧ a24.toInt < 2147483648 := z_rngI rfl
  refine lv_topl (fun r27 h28 => ?_)
  have f29 : r27.toInt = a24.toInt := z_i2lT h28 rfl
  refine lv_ldc2 hx hb hown hk0 dL_law_1505 ?_
  refine lv_land hx hb dL_law_1508 ?_
  refine lv_topl (fun r30 _ => ?_)
  refine lv_lor hx hb dL_law_1509 ?_
  refine lv_topl (fun r31 _ => ?_)
  refine f_fini (va_runV (As := [.int a4, .int a9, .long r31]) (rest := []) ⟨hx, hb, hml, hown, hts⟩ (q_X8_write l dC dI cB cI cJ cZ cP cQ adK adV q0 a1 H.size ob w1 a4 a9 r31 I1) (cwV 3 hts gT_X8_write rfl rfl rfl (by decide +kernel) ⟨Nat.le_of_ble_eq_true rfl, Nat.le_of_ble_eq_true rfl⟩) (f_pV (ci := 8) hE hS hA hK hP hD hX rfl (IX_recv I1)) rfl rfl hl.1 rfl (lv_room (Nat.le_of_ble_eq_true rfl)) dL_law_1510 ⟨by show _ + 0 ≤ 600000; omega, by show _ + 0 ≤ 7302250; omega⟩) hP hD hS hA (fun r32 w1 H locs hp hP hD hS => ?_)
  obtain ⟨I1, h33⟩ := hp
  refine lv_pop hx hb dL_law_1513 rfl ?_
  refine lv_aload_n hx hb dL_law_1514 rfl (lv_at hl 1 rfl) ?_
  refine lv_aload_n hx hb dL_law_1515 rfl (lv_at hl 3 rfl) ?_
  refine lv_iload_n hx hb dL_law_1516 rfl (lv_at hl 0 rfl) ?_
  refine lv_iconst (v := 1) hx hb dL_law_1517 (by decide) ?_
  refine lv_iadd hx hb dL_law_1518 ?_
  refine lv_topi (fun r34 h35 => ?_)
  have f36 : r34.toInt = x3.toInt + 1 := z_iadd h35 rfl (show Int32.toInt 1 = 1 from by decide) (by omega) (by omega)
  refine va_sld hx hb hXs hbl hbA hS (z_in rfl (by omega) (by omega)) dL_law_1519 ?_
  refine lv_topi (fun a37 h38 => ?_)
  refine lv_aload_n hx hb dL_law_1520 rfl (lv_at hl 3 rfl) ?_
  refine lv_iload_n hx hb dL_law_1521 rfl (lv_at hl 0 rfl) ?_
  refine lv_iconst (v := 2) hx hb dL_law_1522 (by decide) ?_
  refine lv_iadd hx hb dL_law_1523 ?_
  refine lv_topi (fun r39 h40 => ?_)
  have f41 : r39.toInt = x3.toInt + 2 := z_iadd h40 rfl (show Int32.toInt 2 = 2 from by decide) (by omega) (by omega)
  refine va_sld hx hb hXs hbl hbA hS (z_in rfl (by omega) (by omega)) dL_law_1524 ?_
  refine lv_topi (fun a42 h43 => ?_)
  refine lv_aload_n hx hb dL_law_1525 rfl (lv_at hl 3 rfl) ?_
  refine lv_iload_n hx hb dL_law_1526 rfl (lv_at hl 0 rfl) ?_
  refine lv_iconst (v := 3) hx hb dL_law_1527 (by decide) ?_
  refine lv_iadd hx hb dL_law_1528 ?_
  refine lv_topi (fun r44 h45 => ?_)
  have f46 : r44.toInt = x3.toInt + 3 := z_iadd h45 rfl (show Int32.toInt 3 = 3 from by decide) (by omega) (by omega)
  refine va_sld hx hb hXs hbl hbA hS (z_in rfl (by omega) (by omega)) dL_law_1529 ?_
  refine lv_topi (fun a47 h48 => ?_)
  refine lv_i2l hx hb dL_law_1530 rfl ?_
  have f49 : -2147483648 ≤ a47.toInt ∧ a47.toInt < 2147483648 := z_rngI rfl
  refine lv_topl (fun r50 h51 => ?_)
  have f52 : r50.toInt = a47.toInt := z_i2lT h51 rfl
  refine lv_bipush (v := 32) hx hb dL_law_1531 (by decide) ?_
  refine lv_lshl hx hb dL_law_1533 rfl ?_
  refine lv_topl (fun r53 _ => ?_)
  refine lv_aload_n hx hb dL_law_1534 rfl (lv_at hl 3 rfl) ?_
  refine lv_iload_n hx hb dL_law_1535 rfl (lv_at hl 0 rfl) ?_
  refine lv_iconst (v := 4) hx hb dL_law_1536 (by decide) ?_
  refine lv_iadd hx hb dL_law_1537 ?_
  refine lv_topi (fun r54 h55 => ?_)
  have f56 : r54.toInt = x3.toInt + 4 := z_iadd h55 rfl (show Int32.toInt 4 = 4 from by decide) (by omega) (by omega)
  refine va_sld hx hb hXs hbl hbA hS (z_in rfl (by omega) (by omega)) dL_law_1538 ?_
  refine lv_topi (fun a57 h58 => ?_)
  refine lv_i2l hx hb dL_law_1539 rfl ?_
  have f59 : -2147483648 ≤ a57.toInt ∧ a57.toInt < 2147483648 := z_rngI rfl
  refine lv_topl (fun r60 h61 => ?_)
  have f62 : r60.toInt = a57.toInt := z_i2lT h61 rfl
  refine lv_ldc2 hx hb hown hk0 dL_law_1540 ?_
  refine lv_land hx hb dL_law_1543 ?_
  refine lv_topl (fun r63 _ => ?_)
  refine lv_lor hx hb dL_law_1544 ?_
  refine lv_topl (fun r64 _ => ?_)
  have hP : va_P (dC, dI) vwCl (w2 ++ w1) H := f_Pm List.perm_append_comm hP
  have hD : va_D (fun q : Nat => s.heap.size ≤ q) (w2 ++ w1) := f_Dm List.perm_append_comm hD
  refine f_fini (va_runV (As := [.int a37, .int a42, .long r64]) (rest := []) ⟨hx, hb, hml, hown, hts⟩ (q_X9_write l dC dI cB cI cJ cZ cP cQ adK adV q0 a2 H.size ob w2 a37 a42 r64 I2) (cwV 3 hts gT_X9_write rfl rfl rfl (by decide +kernel) ⟨Nat.le_of_ble_eq_true rfl, Nat.le_of_ble_eq_true rfl⟩) (f_pV (ci := 9) hE hS hA hK hP hD hX rfl (IM_recv I2)) rfl rfl hl.1 rfl (lv_room (Nat.le_of_ble_eq_true rfl)) dL_law_1545 ⟨by show _ + 0 ≤ 600000; omega, by show _ + 0 ≤ 7302250; omega⟩) hP hD hS hA (fun r65 w2 H locs hp hP hD hS => ?_)
  obtain ⟨I2, h66⟩ := hp
  have hP : va_P (dC, dI) vwCl (w1 ++ w2) H := f_Pm List.perm_append_comm hP
  have hD : va_D (fun q : Nat => s.heap.size ≤ q) (w1 ++ w2) := f_Dm List.perm_append_comm hD
  refine lv_pop hx hb dL_law_1548 rfl ?_
  refine lv_goto (tgt := 1615) hx hb dL_law_1549 (by decide) ?_
  refine W.widen (k := cells + 18) (n := slots + 1522) (by omega) (by omega) ?_
  exact kk ob w1 w2 H locs ls I1 I2 hP hD hS (lv_sub hl [0, 1, 2, 3] rfl)
set_option maxHeartbeats 8000000 in
set_option maxRecDepth 100000 in
theorem law_case42 {p : Program} {e : Env} {s : State} {m : MethodId} {below : List Frame} {meth : Method} {c : Code} {b L : Nat} {xs : Nat → Int32} (l : Launch) (dC : Nat → ClassId) (dI : Nat → Nat → Nat) (cB cI cJ cZ cP cQ : ClassId) (adK adV : Nat → Nat) (q0 : Option Nat) (a1 a2 : Nat) (x3 : Int32) (C0 : lw_At p s m meth c b L xs) (hL : L ≤ 3072) (hK : va_K (dC, dI) vwCl (zT cB cI cJ cZ cP cQ) s) (hX : zX zNW zAO s) (hE : zE adK adV q0 (fun q : Nat => s.heap.size ≤ q) s s.heap) (i cells slots : Nat) (hi : x3.toInt = i) (hiL : i + 6 ≤ L) (hc : cells + 18 ≤ 600000) (hs : slots + 1522 ≤ 7302250) (ob : Nat → Int32) (w1 w2 : va_W) (I1 : IX cB cI cJ cZ cP cQ a1 ob w1) (I2 : IM cB cI cJ cZ cP cQ a2 ob w2) (H : Heap) (locs : List Loc) (hP : va_P (dC, dI) vwCl (w1 ++ w2) H) (hD : va_D (fun q : Nat => s.heap.size ≤ q) (w1 ++ w2)) (hS : va_S (fun q : Nat => s.heap.size ≤ q) s.heap H locs) (ls : Array Slot) (hl : lv_has ls 4 [(3, .int x3), (2, .ref a2), (1, .ref a1), (0, .ref b)]) (kk : ∀ (ob : Nat → Int32) (w1 w2 : va_W) (H : Heap) (locs : List Loc) (ls : Array Slot), IX cB cI cJ cZ cP cQ a1 ob w1 → IM cB cI cJ cZ cP cQ a2 ob w2 → va_P (dC, dI) vwCl (w1 ++ w2) H → va_D (fun q : Nat => s.heap.size ≤ q) (w1 ++ w2) → va_S (fun q : Nat => s.heap.size ≤ q) s.heap H locs → lv_has ls 4 [(3, .int x3), (2, .ref a2), (1, .ref a1), (0, .ref b)] → W p l e room_1 s m #[Value.ref b] below meth c H locs (cells + 18) (slots + 1522) (lw_Z below #[Value.ref b] s) (F0 m 1615 ls [])) : W p l e room_1 s m #[Value.ref b] below meth c H locs cells slots (lw_Z below #[Value.ref b] s) (F0 m 1552 ls []) := by
  obtain ⟨hx, hb, hr, hml, hown, hts, hXs, hbl, hlocks, hgv⟩ := id C0
  have hown : s.vm.findClass RL = some m.cls := hown
  have hA : ∀ q : Nat, s.heap.size ≤ q → (fun q : Nat => s.heap.size ≤ q) q := fun _ h => h
  have hbA : ¬ (fun q : Nat => s.heap.size ≤ q) b := Nat.not_le.mpr hbl
  refine lv_aload_n hx hb dL_law_1552 rfl (lv_at hl 2 rfl) ?_
  refine lv_aload_n hx hb dL_law_1553 rfl (lv_at hl 3 rfl) ?_
  refine lv_iload_n hx hb dL_law_1554 rfl (lv_at hl 0 rfl) ?_
  refine lv_iconst (v := 1) hx hb dL_law_1555 (by decide) ?_
  refine lv_iadd hx hb dL_law_1556 ?_
  refine lv_topi (fun r1 h2 => ?_)
  have f3 : r1.toInt = x3.toInt + 1 := z_iadd h2 rfl (show Int32.toInt 1 = 1 from by decide) (by omega) (by omega)
  refine va_sld hx hb hXs hbl hbA hS (z_in rfl (by omega) (by omega)) dL_law_1557 ?_
  refine lv_topi (fun a4 h5 => ?_)
  refine lv_aload_n hx hb dL_law_1558 rfl (lv_at hl 3 rfl) ?_
  refine lv_iload_n hx hb dL_law_1559 rfl (lv_at hl 0 rfl) ?_
  refine lv_iconst (v := 2) hx hb dL_law_1560 (by decide) ?_
  refine lv_iadd hx hb dL_law_1561 ?_
  refine lv_topi (fun r6 h7 => ?_)
  have f8 : r6.toInt = x3.toInt + 2 := z_iadd h7 rfl (show Int32.toInt 2 = 2 from by decide) (by omega) (by omega)
  refine va_sld hx hb hXs hbl hbA hS (z_in rfl (by omega) (by omega)) dL_law_1562 ?_
  refine lv_topi (fun a9 h10 => ?_)
  refine lv_aload_n hx hb dL_law_1563 rfl (lv_at hl 3 rfl) ?_
  refine lv_iload_n hx hb dL_law_1564 rfl (lv_at hl 0 rfl) ?_
  refine lv_iconst (v := 3) hx hb dL_law_1565 (by decide) ?_
  refine lv_iadd hx hb dL_law_1566 ?_
  refine lv_topi (fun r11 h12 => ?_)
  have f13 : r11.toInt = x3.toInt + 3 := z_iadd h12 rfl (show Int32.toInt 3 = 3 from by decide) (by omega) (by omega)
  refine va_sld hx hb hXs hbl hbA hS (z_in rfl (by omega) (by omega)) dL_law_1567 ?_
  refine lv_topi (fun a14 h15 => ?_)
  refine lv_aload_n hx hb dL_law_1568 rfl (lv_at hl 3 rfl) ?_
  refine lv_iload_n hx hb dL_law_1569 rfl (lv_at hl 0 rfl) ?_
  refine lv_iconst (v := 4) hx hb dL_law_1570 (by decide) ?_
  refine lv_iadd hx hb dL_law_1571 ?_
  refine lv_topi (fun r16 h17 => ?_)
  have f18 : r16.toInt = x3.toInt + 4 := z_iadd h17 rfl (show Int32.toInt 4 = 4 from by decide) (by omega) (by omega)
  refine va_sld hx hb hXs hbl hbA hS (z_in rfl (by omega) (by omega)) dL_law_1572 ?_
  refine lv_topi (fun a19 h20 => ?_)
  refine lv_aload_n hx hb dL_law_1573 rfl (lv_at hl 3 rfl) ?_
  refine lv_iload_n hx hb dL_law_1574 rfl (lv_at hl 0 rfl) ?_
  refine lv_iconst (v := 5) hx hb dL_law_1575 (by decide) ?_
  refine lv_iadd hx hb dL_law_1576 ?_
  refine lv_topi (fun r21 h22 => ?_)
  have f23 : r21.toInt = x3.toInt + 5 := z_iadd h22 rfl (show Int32.toInt 5 = 5 from by decide) (by omega) (by omega)
  refine va_sld hx hb hXs hbl hbA hS (z_in rfl (by omega) (by omega)) dL_law_1577 ?_
  refine lv_topi (fun a24 h25 => ?_)
  refine f_fini (va_runV (As := [.int a4, .int a9, .int a14, .int a19, .int a24]) (rest := []) ⟨hx, hb, hml, hown, hts⟩ (q_X8_paste l dC dI cB cI cJ cZ cP cQ adK adV q0 a1 H.size ob w1 a4 a9 a14 a19 a24 I1) (cwV 5 hts gT_X8_paste rfl rfl rfl (by decide +kernel) ⟨Nat.le_of_ble_eq_true rfl, Nat.le_of_ble_eq_true rfl⟩) (f_pV (ci := 8) hE hS hA hK hP hD hX rfl (IX_recv I1)) rfl rfl hl.1 rfl (lv_room (Nat.le_of_ble_eq_true rfl)) dL_law_1578 ⟨by show _ + 0 ≤ 600000; omega, by show _ + 0 ≤ 7302250; omega⟩) hP hD hS hA (fun r26 w1 H locs hp hP hD hS => ?_)
  obtain ⟨I1, h27⟩ := hp
  refine lv_aload_n hx hb dL_law_1581 rfl (lv_at hl 1 rfl) ?_
  refine lv_aload_n hx hb dL_law_1582 rfl (lv_at hl 3 rfl) ?_
  refine lv_iload_n hx hb dL_law_1583 rfl (lv_at hl 0 rfl) ?_
  refine lv_iconst (v := 1) hx hb dL_law_1584 (by decide) ?_
  refine lv_iadd hx hb dL_law_1585 ?_
  refine lv_topi (fun r28 h29 => ?_)
  have f30 : r28.toInt = x3.toInt + 1 := z_iadd h29 rfl (show Int32.toInt 1 = 1 from by decide) (by omega) (by omega)
  refine va_sld hx hb hXs hbl hbA hS (z_in rfl (by omega) (by omega)) dL_law_1586 ?_
  refine lv_topi (fun a31 h32 => ?_)
  refine lv_aload_n hx hb dL_law_1587 rfl (lv_at hl 3 rfl) ?_
  refine lv_iload_n hx hb dL_law_1588 rfl (lv_at hl 0 rfl) ?_
  refine lv_iconst (v := 2) hx hb dL_law_1589 (by decide) ?_
  refine lv_iadd hx hb dL_law_1590 ?_
  refine lv_topi (fun r33 h34 => ?_)
  have f35 : r33.toInt = x3.toInt + 2 := z_iadd h34 rfl (show Int32.toInt 2 = 2 from by decide) (by omega) (by omega)
  refine va_sld hx hb hXs hbl hbA hS (z_in rfl (by omega) (by omega)) dL_law_1591 ?_
  refine lv_topi (fun a36 h37 => ?_)
  refine lv_aload_n hx hb dL_law_1592 rfl (lv_at hl 3 rfl) ?_
  refine lv_iload_n hx hb dL_law_1593 rfl (lv_at hl 0 rfl) ?_
  refine lv_iconst (v := 3) hx hb dL_law_1594 (by decide) ?_
  refine lv_iadd hx hb dL_law_1595 ?_
  refine lv_topi (fun r38 h39 => ?_)
  have f40 : r38.toInt = x3.toInt + 3 := z_iadd h39 rfl (show Int32.toInt 3 = 3 from by decide) (by omega) (by omega)
  refine va_sld hx hb hXs hbl hbA hS (z_in rfl (by omega) (by omega)) dL_law_1596 ?_
  refine lv_topi (fun a41 h42 => ?_)
  refine lv_aload_n hx hb dL_law_1597 rfl (lv_at hl 3 rfl) ?_
  refine lv_iload_n hx hb dL_law_1598 rfl (lv_at hl 0 rfl) ?_
  refine lv_iconst (v := 4) hx hb dL_law_1599 (by decide) ?_
  refine lv_iadd hx hb dL_law_1600 ?_
  refine lv_topi (fun r43 h44 => ?_)
  have f45 : r43.toInt = x3.toInt + 4 := z_iadd h44 rfl (show Int32.toInt 4 = 4 from by decide) (by omega) (by omega)
  refine va_sld hx hb hXs hbl hbA hS (z_in rfl (by omega) (by omega)) dL_law_1601 ?_
  refine lv_topi (fun a46 h47 => ?_)
  refine lv_aload_n hx hb dL_law_1602 rfl (lv_at hl 3 rfl) ?_
  refine lv_iload_n hx hb dL_law_1603 rfl (lv_at hl 0 rfl) ?_
  refine lv_iconst (v := 5) hx hb dL_law_1604 (by decide) ?_
  refine lv_iadd hx hb dL_law_1605 ?_
  refine lv_topi (fun r48 h49 => ?_)
  have f50 : r48.toInt = x3.toInt + 5 := z_iadd h49 rfl (show Int32.toInt 5 = 5 from by decide) (by omega) (by omega)
  refine va_sld hx hb hXs hbl hbA hS (z_in rfl (by omega) (by omega)) dL_law_1606 ?_
  refine lv_topi (fun a51 h52 => ?_)
  have hP : va_P (dC, dI) vwCl (w2 ++ w1) H := f_Pm List.perm_append_comm hP
  have hD : va_D (fun q : Nat => s.heap.size ≤ q) (w2 ++ w1) := f_Dm List.perm_append_comm hD
  refine f_fini (va_runV (As := [.int a31, .int a36, .int a41, .int a46, .int a51]) (rest := [.int r26]) ⟨hx, hb, hml, hown, hts⟩ (q_X9_paste l dC dI cB cI cJ cZ cP cQ adK adV q0 a2 H.size ob w2 a31 a36 a41 a46 a51 I2) (cwV 5 hts gT_X9_paste rfl rfl rfl (by decide +kernel) ⟨Nat.le_of_ble_eq_true rfl, Nat.le_of_ble_eq_true rfl⟩) (f_pV (ci := 9) hE hS hA hK hP hD hX rfl (IM_recv I2)) rfl rfl hl.1 rfl (lv_room (Nat.le_of_ble_eq_true rfl)) dL_law_1607 ⟨by show _ + 0 ≤ 600000; omega, by show _ + 0 ≤ 7302250; omega⟩) hP hD hS hA (fun r53 w2 H locs hp hP hD hS => ?_)
  obtain ⟨I2, h54⟩ := hp
  have hP : va_P (dC, dI) vwCl (w1 ++ w2) H := f_Pm List.perm_append_comm hP
  have hD : va_D (fun q : Nat => s.heap.size ≤ q) (w1 ++ w2) := f_Dm List.perm_append_comm hD
  have e55 : a4 = a31 := by rw [h5, h32, z_clE (x := r1) (y := r28) (by omega)]
  have e56 : a9 = a36 := by rw [h10, h37, z_clE (x := r6) (y := r33) (by omega)]
  have e57 : a14 = a41 := by rw [h15, h42, z_clE (x := r11) (y := r38) (by omega)]
  have e58 : a19 = a46 := by rw [h20, h47, z_clE (x := r16) (y := r43) (by omega)]
  have e59 : a24 = a51 := by rw [h25, h52, z_clE (x := r21) (y := r48) (by omega)]
  rw [← e55, ← e56, ← e57, ← e58, ← e59] at h54
  have heq : r26 = r53 := z_int (by omega)
  refine lv_icmp_eq (tgt := 1615) hx hb dL_law_1610 (by decide) (fun _ => ?_) (fun c => absurd heq c)
  refine W.widen (k := cells + 18) (n := slots + 1522) (by omega) (by omega) ?_
  exact kk ob w1 w2 H locs ls I1 I2 hP hD hS (lv_sub hl [0, 1, 2, 3] rfl)
