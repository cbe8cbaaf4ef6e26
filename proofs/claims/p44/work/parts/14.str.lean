/-! own rows: the texts of the class, as they lie in the heap, and the JDK's length and charAt over them -/
def zsLen : List Nat := [3, 5, 5, 4, 5, 4, 4, 6, 4, 2, 4, 6, 5, 3, 6, 4, 5, 5, 4, 5]
def zsByt : List (List Int32) := [[108, 97, 119], [101, 110, 116, 101, 114], [108, 101, 97, 118, 101], [115, 111, 114, 116], [115, 104, 97, 114, 101], [103, 105, 102, 116], [119, 105, 115, 104], [115, 112, 114, 101, 97, 100], [108, 101, 97, 107], [98, 121], [119, 97, 103, 101], [115, 99, 104, 111, 111, 108], [109, 111, 110, 116, 104], [111, 108, 100], [102, 111, 114, 99, 101, 100], [112, 108, 117, 115], [109, 105, 110, 117, 115], [116, 105, 109, 101, 115], [111, 118, 101, 114], [110, 111, 105, 115, 101]]
def zsIx (i : Nat) : Nat × String := match i with
  | 0 => (46, "law")
  | 1 => (86, "enter")
  | 2 => (92, "leave")
  | 3 => (55, "sort")
  | 4 => (104, "share")
  | 5 => (106, "gift")
  | 6 => (108, "wish")
  | 7 => (110, "spread")
  | 8 => (60, "leak")
  | 9 => (123, "by")
  | 10 => (65, "wage")
  | 11 => (151, "school")
  | 12 => (153, "month")
  | 13 => (155, "old")
  | 14 => (157, "forced")
  | 15 => (162, "plus")
  | 16 => (164, "minus")
  | 17 => (166, "times")
  | 18 => (168, "over")
  | _ => (70, "noise")
def zv (o : Option Nat) : Value := match o with
  | none => .null
  | some a => .ref a
def zE (adK adV : Nat → Nat) (q0 : Option Nat) (A : Nat → Prop) (U : State) (H : Heap) : Prop := vk_S 20 zsLen zsByt adK adV A U H ∧ va_Z "java/lang/String" "COMPACT_STRINGS" "Z" (.int 1) A U H ∧ va_Z "jdk/internal/util/Preconditions" "SIOOBE_FORMATTER" "Ljava/util/function/BiFunction;" (zv q0) A U H ∧ ∀ i : Nat, i < 20 → vk_R RX7 (zsIx i).1 (zsIx i).2 (adK i) U
theorem zE_warm {adK adV : Nat → Nat} {q0 : Option Nat} {A : Nat → Prop} {s U : State} {H : Heap} (hW : s.WarmedH U.vm) (h : zE adK adV q0 A s H) : zE adK adV q0 A U H := ⟨vk_S.moved hW.alike h.1, va_Z.moved hW.alike h.2.1, va_Z.moved hW.alike h.2.2.1, fun i hi => vk_R.warm hW (h.2.2.2 i hi)⟩
theorem zE_kept {adK adV : Nat → Nat} {q0 : Option Nat} {A : Nat → Prop} {U : State} {H H1 : Heap} (h : zE adK adV q0 A U H) (hq : ∀ a : Nat, a < H.size → ¬ A a → H1[a]? = H[a]?) : zE adK adV q0 A U H1 := ⟨h.1.kept hq, h.2.1.kept hq, h.2.2.1.kept hq, h.2.2.2⟩
theorem zE_narrow {adK adV : Nat → Nat} {q0 : Option Nat} {A B : Nat → Prop} {U : State} {H : Heap} (h : zE adK adV q0 A U H) (hAB : ∀ q, B q → A q) : zE adK adV q0 B U H := ⟨h.1.narrow hAB, h.2.1.narrow hAB, h.2.2.1.narrow hAB, h.2.2.2⟩
theorem zE_call {adK adV : Nat → Nat} {q0 : Option Nat} {A : Nat → Prop} {U : State} {g : JFrame} {mk : MethodId} {a : Array Value} (h : zE adK adV q0 A U U.heap) : zE adK adV q0 A (U.calling g mk a) (U.calling g mk a).heap := ⟨vk_S.moved (Vm.Alike.refl U.vm) h.1, va_Z.moved (Vm.Alike.refl U.vm) h.2.1, va_Z.moved (Vm.Alike.refl U.vm) h.2.2.1, fun i hi => vk_R.same (u := U) rfl (h.2.2.2 i hi)⟩
def sPc (av : List Value) (D : va_G) (tys : List (ClassId × FieldType)) (w : va_W) (sz : Nat) (nws : List (String × Nat × MethodName × String)) (aos : List String) (adK adV : Nat → Nat) (q0 : Option Nat) : Array Value → State → Prop := va_Pc av (fun U => U.heap.size = sz ∧ va_P D vwCl w U.heap ∧ va_K D vwCl tys U ∧ va_D (fun _ => True) w ∧ zX nws aos U ∧ zE adK adV q0 (va_A w sz) U U.heap)
theorem s_blind {av : List Value} {D : va_G} {tys : List (ClassId × FieldType)} {w : va_W} {sz : Nat} {nws : List (String × Nat × MethodName × String)} {aos : List String} {adK adV : Nat → Nat} {q0 : Option Nat} : FrameBlind (sPc av D tys w sz nws aos adK adV q0) := fun a U g mk h => ⟨h.1, h.2.1, h.2.2.1, va_K.moved (u := U) (U := U.calling g mk a) (Vm.Alike.refl U.vm) h.2.2.2.1, h.2.2.2.2.1, zX_call h.2.2.2.2.2.1, zE_call h.2.2.2.2.2.2⟩
theorem s_pS {s : State} {H : Heap} {locs : List Loc} {av : List Value} {D : va_G} {tys : List (ClassId × FieldType)} {w wc : va_W} {A : Nat → Prop} {nws : List (String × Nat × MethodName × String)} {aos : List String} {adK adV : Nat → Nat} {q0 : Option Nat} (hE : zE adK adV q0 A s s.heap) (hS : va_S A s.heap H locs) (hA : ∀ q, s.heap.size ≤ q → A q) (hK : va_K D vwCl tys s) (hP : va_P D vwCl w H) (hD : va_D A w) (hX : zX nws aos s) (isC : List Nat) (hnd : va_nd isC = true) (hC : isC.map (fun i => w[i]?) = wc.map some) : PreS s H (sPc av D tys wc H.size nws aos adK adV q0) av :=
  ⟨s_blind, fun U hU hW => ⟨rfl, by rw [hU], by rw [hU]; exact hP.sub isC (z_fm hC), va_K.moved hW.alike hK, (hD.sub isC hnd hC).weaken (fun _ _ _ _ => trivial), zX_warm hW hX, by rw [hU]; exact zE_warm hW (zE_narrow (zE_kept hE hS.2.1) (va_free (wc := wc) hD hS hA isC hC))⟩⟩
theorem s_pV {s : State} {H : Heap} {locs : List Loc} {b : Nat} {As : List Value} {D : va_G} {tys : List (ClassId × FieldType)} {w wc : va_W} {A : Nat → Prop} {nws : List (String × Nat × MethodName × String)} {aos : List String} {adK adV : Nat → Nat} {q1 : Option Nat} {q : vw_C} {ci : Nat} {fs : List Value} (hE : zE adK adV q1 A s s.heap) (hS : va_S A s.heap H locs) (hA : ∀ q, s.heap.size ≤ q → A q) (hK : va_K D vwCl tys s) (hP : va_P D vwCl w H) (hD : va_D A w) (hX : zX nws aos s) (isC : List Nat) (hnd : va_nd isC = true) (hC : isC.map (fun i => w[i]?) = wc.map some) (hc : vwCl[ci]? = some q) (q0 : Nat) (he : w[q0]? = some (b, .inr (ci, fs))) : PreV s H q.1 b (sPc (.ref b :: As) D tys wc H.size nws aos adK adV q1) As :=
  ⟨s_blind, va_recv hK hP hc he, (s_pS (av := .ref b :: As) hE hS hA hK hP hD hX isC hnd hC).2⟩
theorem s_pT {s : State} {H : Heap} {locs : List Loc} {i : Nat} {As : List Value} {D : va_G} {tys : List (ClassId × FieldType)} {w wc : va_W} {A : Nat → Prop} {nws : List (String × Nat × MethodName × String)} {aos : List String} {adK adV : Nat → Nat} {q1 : Option Nat} (hE : zE adK adV q1 A s s.heap) (hi : i < 20) (hS : va_S A s.heap H locs) (hA : ∀ q, s.heap.size ≤ q → A q) (hK : va_K D vwCl tys s) (hP : va_P D vwCl w H) (hD : va_D A w) (hX : zX nws aos s) (isC : List Nat) (hnd : va_nd isC = true) (hC : isC.map (fun i => w[i]?) = wc.map some) : PreV s H RJ0 (adK i) (sPc (.ref (adK i) :: As) D tys wc H.size nws aos adK adV q1) As :=
  ⟨s_blind, vk_recv hE.1 hi hS, (s_pS (av := .ref (adK i) :: As) hE hS hA hK hP hD hX isC hnd hC).2⟩
section SW
variable {p : Program} {l : Launch} {e : Env} {R : Room} {s : State} {m : MethodId} {args : Array Value} {below : List Frame} {meth : Method} {c : Code} {H H0 : Heap} {locs : List Loc} {cells slots : Nat} {Q : State → Prop} {cc : ByteArray} {pc : Nat} {ls : Array Slot} {rest : List Value} {D : va_G} {tys : List (ClassId × FieldType)} {w : va_W} {A : Nat → Prop} {a : Nat}
theorem s_enter {y : MethodName} {ws ws' : List Cond} {rm : Room} {maxL : Nat} {ret : Option FieldType} {av : List Value} {sz : Nat} {nws : List (String × Nat × MethodName × String)} {aos : List String} {Qc : Array Value → State → Outcome → State → Prop} {mc ms : Nat} {adK adV : Nat → Nat} {q0 : Option Nat} (hy : plainName y.cls = true) (hw : ws = Cond.code y cc maxL ret :: ws') (hn : (lg_sl av).length ≤ maxL)
    (body : ∀ (p : Program) (e : Env) (s : State) (m : MethodId) (below : List Frame) (meth : Method) (c : Code) (A : Nat → Prop) (ls : Array Slot) (Q : State → Prop) (H : Heap) (locs : List Loc), p.tables.exec = Jvm.exec → c.code = cc → meth.sig.returnType = ret → c.maxLocals = maxL → s.vm.findClass y.cls = some m.cls → (∀ w ∈ ws, w.before av.toArray s = true) → meth.locks = false → meth.name = y.name → va_K D vwCl tys s → va_P D vwCl w H → va_D A w → (∀ q, s.heap.size ≤ q → A q) → zX nws aos s → va_S A s.heap H locs → A = va_A w sz → Q = MQ below Qc av.toArray s mc ms (va_A w sz) → lv_has ls maxL (lv_args 0 av) → zE adK adV q0 A s s.heap → W p l e rm s m av.toArray below meth c H locs 0 0 Q (F0 m 0 ls [])) : Met l y ws rm (sPc av D tys w sz nws aos adK adV q0) Qc mc ms (va_A w sz) := by
  refine Met.ofW (cc := cc) (maxL := maxL) (ret := ret) hy hw ?_
  intro p e s m args below meth c s₁ B hml hv
  obtain ⟨rfl, hsz, hP, hK, hD0, hX, hE⟩ := hv
  have hts := atoms_spec (ws := ws) B.pre
  have hown : s.vm.findClass y.cls = some m.cls := findClass_of_methodNamed B.named
  have hnm := (name_of_methodNamed B.named B.method).1
  subst hsz
  have hD := hD0.self (sz := s.heap.size)
  have hl := lv_entry av (n := maxL) hn
  rw [lg_entry_eq]
  exact body p e s m below meth c (va_A w s.heap.size) _ _ s.heap [] B.exec B.bytes B.returns hml hown hts B.notSynchronized hnm hK hP hD (fun q h => Or.inr h) hX va_S.rf rfl rfl hl hE
theorem y_nret {S : Type} {post : Int32 → S → Prop} {v : Int32} {ty : FieldType} {w2 : S → va_W} {w9 : va_W} {sz : Nat} (u : S) (hx : p.tables.exec = Jvm.exec) (hb : c.code = cc) (hr : meth.sig.returnType = some ty) (hlocks : meth.locks = false) (hK : va_K D vwCl tys s) (hP : va_P D vwCl w9 H) (hD : va_D A w9) (hS : va_S A s.heap H locs) (hAe : A = va_A w sz) (hQ : Q = MQ below (va_Qi post (zB D tys w2 w sz) (va_A w sz)) args s cells slots (va_A w sz)) (hw9 : w2 u = w9) (hp : post v u) (hnv : narrow ty (.int v) = .int v) (hdg : decode cc pc = .ok (.ireturn, 1)) : W p l e R s m args below meth c H locs cells slots Q (F0 m pc ls [.int v]) := by
  subst hw9 hAe hQ
  exact W.zret hx hb hr hnv (fun t ht hW => ⟨⟨v, u, rfl, hp, by rw [ht]; exact hP, va_K.moved hW.alike hK, hD⟩, hS.F ht⟩) hS.2.2 hdg hlocks
end SW
theorem zs_all : ∀ i, i < 20 → zsLen.getD i 0 ≤ 6 ∧ 1 ≤ zsLen.getD i 0 := by decide
theorem z_char (x : Int32) : narrow .char (.int (((x &&& 255).toUInt32 % 65536).toInt32)) = .int (((x &&& 255).toUInt32 % 65536).toInt32) := by
  have h : ((x &&& 255).toUInt32 % 65536).toInt32 = (((x &&& 255).toUInt32 % 65536).toInt32.toUInt32 % 65536).toInt32 := by
    congr 1
    apply UInt32.toNat_inj.mp
    simp
  exact congrArg Value.int h.symm
theorem zs_len : ∀ i, i < 20 → (Int32.ofNat (zsLen.getD i 0)).toInt = (zsLen.getD i 0 : Nat) := by decide
theorem zs_shr : ∀ i, i < 20 → (Int32.ofNat (zsLen.getD i 0) >>> ((0 : Int32) &&& 31)).toInt = (zsLen.getD i 0 : Nat) := by decide
set_option maxHeartbeats 4000000 in
theorem k_coder (l : Launch) (dC : Nat → ClassId) (dI : Nat → Nat → Nat) (cB cI cJ cZ cP cQ : ClassId) (adK adV : Nat → Nat) (q0 : Option Nat) (sz : Nat) (i : Nat) (hi : i < 20) : Met l yJ0_coder_7d493 wsJ0_coder_7d493 ({ frames := 0, cells := 0, slots := 0, locals := 0 } : Room) (sPc [.ref (adK i)] (dC, dI) (zT cB cI cJ cZ cP cQ) [] sz [] [] adK adV q0) (va_Qi (fun (r : Int32) (_ : Unit) => r = 0) (zB (dC, dI) (zT cB cI cJ cZ cP cQ) (fun _ : Unit => []) [] sz) (va_A [] sz)) 0 0 (va_A [] sz) := by
  refine s_enter (cc := cJ0_coder_7d493) (maxL := 1) (ret := (some .byte)) (by decide) rfl (Nat.le_of_ble_eq_true rfl) ?_
  intro p e s m below meth c A ls Q H locs hx hb hr hml hown hts hlocks hin hK hP hD hA hX hS hAe hQ hl hE
  have hown : s.vm.findClass RJ0 = some m.cls := hown
  have h1 := hts (.fieldLink RJ0 38 "java/lang/String" "COMPACT_STRINGS" "Z") (by decide +kernel)
  have h2 := hts (.fieldLink RJ0 15 "java/lang/String" "coder" "B") (by decide +kernel)
  have hl : lv_has ls 1 [(0, .ref (adK i))] := hl
  refine va_gets hx hb hE.2.1 hS hown h1 (fun _ h => h) dJ0_coder_7d493_0 ?_
  refine lv_if_eq (tgt := 13) hx hb dJ0_coder_7d493_3 (by decide) (fun c => absurd c (by decide)) (fun _ => ?_)
  refine lv_aload_n hx hb dJ0_coder_7d493_6 rfl (lv_at hl 0 rfl) ?_
  refine vk_getf hx hb (hE.1.1 i hi).2.1 hS hown h2 (fun _ h => h) dJ0_coder_7d493_7 ?_
  refine lv_goto (tgt := 14) hx hb dJ0_coder_7d493_10 (by decide) ?_
  exact y_nret () hx hb hr hlocks hK hP hD hS hAe hQ rfl rfl (by decide) dJ0_coder_7d493_14
set_option maxHeartbeats 4000000 in
theorem k_isLatin1 (l : Launch) (dC : Nat → ClassId) (dI : Nat → Nat → Nat) (cB cI cJ cZ cP cQ : ClassId) (adK adV : Nat → Nat) (q0 : Option Nat) (sz : Nat) (i : Nat) (hi : i < 20) : Met l yJ0_isLatin1_aae02 wsJ0_isLatin1_aae02 ({ frames := 0, cells := 0, slots := 0, locals := 0 } : Room) (sPc [.ref (adK i)] (dC, dI) (zT cB cI cJ cZ cP cQ) [] sz [] [] adK adV q0) (va_Qi (fun (r : Int32) (_ : Unit) => r = 1) (zB (dC, dI) (zT cB cI cJ cZ cP cQ) (fun _ : Unit => []) [] sz) (va_A [] sz)) 0 0 (va_A [] sz) := by
  refine s_enter (cc := cJ0_isLatin1_aae02) (maxL := 1) (ret := (some .boolean)) (by decide) rfl (Nat.le_of_ble_eq_true rfl) ?_
  intro p e s m below meth c A ls Q H locs hx hb hr hml hown hts hlocks hin hK hP hD hA hX hS hAe hQ hl hE
  have hown : s.vm.findClass RJ0 = some m.cls := hown
  have h1 := hts (.fieldLink RJ0 38 "java/lang/String" "COMPACT_STRINGS" "Z") (by decide +kernel)
  have h2 := hts (.fieldLink RJ0 15 "java/lang/String" "coder" "B") (by decide +kernel)
  have hl : lv_has ls 1 [(0, .ref (adK i))] := hl
  refine va_gets hx hb hE.2.1 hS hown h1 (fun _ h => h) dJ0_isLatin1_aae02_0 ?_
  refine lv_if_eq (tgt := 17) hx hb dJ0_isLatin1_aae02_3 (by decide) (fun c => absurd c (by decide)) (fun _ => ?_)
  refine lv_aload_n hx hb dJ0_isLatin1_aae02_6 rfl (lv_at hl 0 rfl) ?_
  refine vk_getf hx hb (hE.1.1 i hi).2.1 hS hown h2 (fun _ h => h) dJ0_isLatin1_aae02_7 ?_
  refine lv_if_ne (tgt := 17) hx hb dJ0_isLatin1_aae02_10 (by decide) (fun c => absurd (by decide) c) (fun _ => ?_)
  refine lv_iconst (v := 1) hx hb dJ0_isLatin1_aae02_13 (by decide) ?_
  refine lv_goto (tgt := 18) hx hb dJ0_isLatin1_aae02_14 (by decide) ?_
  exact y_nret () hx hb hr hlocks hK hP hD hS hAe hQ rfl rfl (by decide) dJ0_isLatin1_aae02_18
set_option maxHeartbeats 4000000 in
theorem k_length (l : Launch) (dC : Nat → ClassId) (dI : Nat → Nat → Nat) (cB cI cJ cZ cP cQ : ClassId) (adK adV : Nat → Nat) (q0 : Option Nat) (sz : Nat) (i : Nat) (hi : i < 20) : Met l yJ0_length_8abf5 wsJ0_length_8abf5 ({ frames := 1, cells := 0, slots := 0, locals := 30 } : Room) (sPc [.ref (adK i)] (dC, dI) (zT cB cI cJ cZ cP cQ) [] sz [] [] adK adV q0) (va_Qi (fun (r : Int32) (_ : Unit) => r.toInt = (zsLen.getD i 0 : Nat)) (zB (dC, dI) (zT cB cI cJ cZ cP cQ) (fun _ : Unit => []) [] sz) (va_A [] sz)) 0 0 (va_A [] sz) := by
  refine s_enter (cc := cJ0_length_8abf5) (maxL := 1) (ret := (some .int)) (by decide) rfl (Nat.le_of_ble_eq_true rfl) ?_
  intro p e s m below meth c A ls Q H locs hx hb hr hml hown hts hlocks hin hK hP hD hA hX hS hAe hQ hl hE
  have hown : s.vm.findClass RJ0 = some m.cls := hown
  have h1 := hts (.fieldLink RJ0 9 "java/lang/String" "value" "[B") (by decide +kernel)
  have hl : lv_has ls 1 [(0, .ref (adK i))] := hl
  refine lv_aload_n hx hb dJ0_length_8abf5_0 rfl (lv_at hl 0 rfl) ?_
  refine vk_getf hx hb (hE.1.1 i hi).2.2.1 hS hown h1 (fun _ h => h) dJ0_length_8abf5_1 ?_
  refine va_tlen hx hb (hE.1.1 i hi).2.2.2 hS (v := Int32.ofNat (zsLen.getD i 0)) rfl dJ0_length_8abf5_4 ?_
  refine lv_aload_n hx hb dJ0_length_8abf5_5 rfl (lv_at hl 0 rfl) ?_
  refine y_fini (w' := fun (_ : Unit) => []) (va_runV (As := []) (rest := [.int (Int32.ofNat (zsLen.getD i 0))]) ⟨hx, hb, hml, hown, hts⟩ (k_coder l dC dI cB cI cJ cZ cP cQ adK adV q0 H.size i hi) (cwV 0 hts gJ0_length_8abf5_J0_coder_7d493 rfl rfl rfl (by decide +kernel) ⟨Nat.le_of_ble_eq_true rfl, Nat.le_of_ble_eq_true rfl⟩) (s_pT hE hi hS hA hK hP hD zX_nil [] (by decide) rfl) rfl rfl hl.1 rfl (lv_room (Nat.le_of_ble_eq_true rfl)) dJ0_length_8abf5_6 ⟨Nat.le_of_ble_eq_true rfl, Nat.le_of_ble_eq_true rfl⟩) hP hD hS hA [] [] [] rfl rfl (by decide) (by decide) (fun _ => rfl) (by decide) (fun r u H locs hp hP hD hS => ?_)
  obtain rfl : r = 0 := hp
  refine W.widen (k := 0) (n := 0) (by decide) (by decide) ?_
  refine lv_ishr hx hb dJ0_length_8abf5_9 ?_
  exact y_iret () hx hb hr hlocks hK hP hD hS hAe hQ rfl (zs_shr i hi) dJ0_length_8abf5_10

set_option maxHeartbeats 4000000 in
theorem k_check3 (l : Launch) (dC : Nat → ClassId) (dI : Nat → Nat → Nat) (cB cI cJ cZ cP cQ : ClassId) (adK adV : Nat → Nat) (q0 : Option Nat) (sz : Nat) (x y : Int32) (a : Nat) (h1 : 0 ≤ x.toInt) (h2 : x.toInt < y.toInt) : Met l yJ3_checkIndex_8e157 wsJ3_checkIndex_8e157 ({ frames := 0, cells := 0, slots := 0, locals := 0 } : Room) (sPc [.int x, .int y, .ref a] (dC, dI) (zT cB cI cJ cZ cP cQ) [] sz [] [] adK adV q0) (va_Qi (fun (r : Int32) (_ : Unit) => True) (zB (dC, dI) (zT cB cI cJ cZ cP cQ) (fun _ : Unit => []) [] sz) (va_A [] sz)) 0 0 (va_A [] sz) := by
  refine s_enter (cc := cJ3_checkIndex_8e157) (maxL := 3) (ret := (some .int)) (by decide) rfl (Nat.le_of_ble_eq_true rfl) ?_
  intro p e s m below meth c A ls Q H locs hx hb hr hml hown hts hlocks hin hK hP hD hA hX hS hAe hQ hl hE
  have hown : s.vm.findClass RJ3 = some m.cls := hown
  have hl : lv_has ls 3 [(0, .int x), (1, .int y), (2, .ref a)] := hl
  refine lv_iload_n hx hb dJ3_checkIndex_8e157_0 rfl (lv_at hl 0 rfl) ?_
  refine lv_if_lt (tgt := 9) hx hb dJ3_checkIndex_8e157_1 (by decide) (fun c => absurd (z_lt rfl (show (0 : Int32).toInt = 0 from rfl) c) (by omega)) (fun _ => ?_)
  refine lv_iload_n hx hb dJ3_checkIndex_8e157_4 rfl (lv_at hl 0 rfl) ?_
  refine lv_iload_n hx hb dJ3_checkIndex_8e157_5 rfl (lv_at hl 1 rfl) ?_
  refine lv_icmp_lt (tgt := 16) hx hb dJ3_checkIndex_8e157_6 (by decide) (fun _ => ?_) (fun c => absurd (z_nlt rfl rfl c) (by omega))
  refine lv_iload_n hx hb dJ3_checkIndex_8e157_16 rfl (lv_at hl 0 rfl) ?_
  exact y_iret () hx hb hr hlocks hK hP hD hS hAe hQ rfl trivial dJ3_checkIndex_8e157_17
set_option maxHeartbeats 4000000 in
theorem k_check3n (l : Launch) (dC : Nat → ClassId) (dI : Nat → Nat → Nat) (cB cI cJ cZ cP cQ : ClassId) (adK adV : Nat → Nat) (q0 : Option Nat) (sz : Nat) (x y : Int32) (h1 : 0 ≤ x.toInt) (h2 : x.toInt < y.toInt) : Met l yJ3_checkIndex_8e157 wsJ3_checkIndex_8e157 ({ frames := 0, cells := 0, slots := 0, locals := 0 } : Room) (sPc [.int x, .int y, .null] (dC, dI) (zT cB cI cJ cZ cP cQ) [] sz [] [] adK adV q0) (va_Qi (fun (r : Int32) (_ : Unit) => True) (zB (dC, dI) (zT cB cI cJ cZ cP cQ) (fun _ : Unit => []) [] sz) (va_A [] sz)) 0 0 (va_A [] sz) := by
  refine s_enter (cc := cJ3_checkIndex_8e157) (maxL := 3) (ret := (some .int)) (by decide) rfl (Nat.le_of_ble_eq_true rfl) ?_
  intro p e s m below meth c A ls Q H locs hx hb hr hml hown hts hlocks hin hK hP hD hA hX hS hAe hQ hl hE
  have hown : s.vm.findClass RJ3 = some m.cls := hown
  have hl : lv_has ls 3 [(0, .int x), (1, .int y), (2, .null)] := hl
  refine lv_iload_n hx hb dJ3_checkIndex_8e157_0 rfl (lv_at hl 0 rfl) ?_
  refine lv_if_lt (tgt := 9) hx hb dJ3_checkIndex_8e157_1 (by decide) (fun c => absurd (z_lt rfl (show (0 : Int32).toInt = 0 from rfl) c) (by omega)) (fun _ => ?_)
  refine lv_iload_n hx hb dJ3_checkIndex_8e157_4 rfl (lv_at hl 0 rfl) ?_
  refine lv_iload_n hx hb dJ3_checkIndex_8e157_5 rfl (lv_at hl 1 rfl) ?_
  refine lv_icmp_lt (tgt := 16) hx hb dJ3_checkIndex_8e157_6 (by decide) (fun _ => ?_) (fun c => absurd (z_nlt rfl rfl c) (by omega))
  refine lv_iload_n hx hb dJ3_checkIndex_8e157_16 rfl (lv_at hl 0 rfl) ?_
  exact y_iret () hx hb hr hlocks hK hP hD hS hAe hQ rfl trivial dJ3_checkIndex_8e157_17
set_option maxHeartbeats 4000000 in
theorem k_check0 (l : Launch) (dC : Nat → ClassId) (dI : Nat → Nat → Nat) (cB cI cJ cZ cP cQ : ClassId) (adK adV : Nat → Nat) (q0 : Option Nat) (sz : Nat) (x y : Int32) (h1 : 0 ≤ x.toInt) (h2 : x.toInt < y.toInt) : Met l yJ0_checkIndex_df160 wsJ0_checkIndex_df160 ({ frames := 1, cells := 0, slots := 0, locals := 40 } : Room) (sPc [.int x, .int y] (dC, dI) (zT cB cI cJ cZ cP cQ) [] sz [] [] adK adV q0) (va_Qv (fun (_ : Unit) => True) (zB (dC, dI) (zT cB cI cJ cZ cP cQ) (fun _ : Unit => []) [] sz) (va_A [] sz)) 0 0 (va_A [] sz) := by
  refine s_enter (cc := cJ0_checkIndex_df160) (maxL := 2) (ret := none) (by decide) rfl (Nat.le_of_ble_eq_true rfl) ?_
  intro p e s m below meth c A ls Q H locs hx hb hr hml hown hts hlocks hin hK hP hD hA hX hS hAe hQ hl hE
  have hown : s.vm.findClass RJ0 = some m.cls := hown
  have h3 := hts (.fieldLink RJ0 1053 "jdk/internal/util/Preconditions" "SIOOBE_FORMATTER" "Ljava/util/function/BiFunction;") (by decide +kernel)
  have hl : lv_has ls 2 [(0, .int x), (1, .int y)] := hl
  refine lv_iload_n hx hb dJ0_checkIndex_df160_0 rfl (lv_at hl 0 rfl) ?_
  refine lv_iload_n hx hb dJ0_checkIndex_df160_1 rfl (lv_at hl 1 rfl) ?_
  refine va_gets hx hb hE.2.2.1 hS hown h3 (fun _ h => h) dJ0_checkIndex_df160_2 ?_
  cases q0 with
  | none =>
    refine y_fini (w' := fun (_ : Unit) => []) (va_runS (As := [.int x, .int y, .null]) (rest := []) ⟨hx, hb, hml, hown, hts⟩ (k_check3n l dC dI cB cI cJ cZ cP cQ adK adV none H.size x y h1 h2) (va_cwS 3 hts gJ0_checkIndex_df160_J3_checkIndex_8e157 rfl rfl rfl (by decide +kernel) ⟨Nat.le_of_ble_eq_true rfl, Nat.le_of_ble_eq_true rfl⟩) (s_pS hE hS hA hK hP hD zX_nil [] (by decide) rfl) rfl rfl hl.1 rfl (lv_room (Nat.le_of_ble_eq_true rfl)) dJ0_checkIndex_df160_5 ⟨Nat.le_of_ble_eq_true rfl, Nat.le_of_ble_eq_true rfl⟩) hP hD hS hA [] [] [] rfl rfl (by decide) (by decide) (fun _ => rfl) (by decide) (fun r u H locs hp hP hD hS => ?_)
    refine W.widen (k := 0) (n := 0) (by decide) (by decide) ?_
    refine lv_pop hx hb dJ0_checkIndex_df160_8 rfl ?_
    exact y_vret () hx hb hr hlocks hK hP hD hS hAe hQ rfl trivial dJ0_checkIndex_df160_9
  | some q0 =>
    refine y_fini (w' := fun (_ : Unit) => []) (va_runS (As := [.int x, .int y, .ref q0]) (rest := []) ⟨hx, hb, hml, hown, hts⟩ (k_check3 l dC dI cB cI cJ cZ cP cQ adK adV (some q0) H.size x y q0 h1 h2) (va_cwS 3 hts gJ0_checkIndex_df160_J3_checkIndex_8e157 rfl rfl rfl (by decide +kernel) ⟨Nat.le_of_ble_eq_true rfl, Nat.le_of_ble_eq_true rfl⟩) (s_pS hE hS hA hK hP hD zX_nil [] (by decide) rfl) rfl rfl hl.1 rfl (lv_room (Nat.le_of_ble_eq_true rfl)) dJ0_checkIndex_df160_5 ⟨Nat.le_of_ble_eq_true rfl, Nat.le_of_ble_eq_true rfl⟩) hP hD hS hA [] [] [] rfl rfl (by decide) (by decide) (fun _ => rfl) (by decide) (fun r u H locs hp hP hD hS => ?_)
    refine W.widen (k := 0) (n := 0) (by decide) (by decide) ?_
    refine lv_pop hx hb dJ0_checkIndex_df160_8 rfl ?_
    exact y_vret () hx hb hr hlocks hK hP hD hS hAe hQ rfl trivial dJ0_checkIndex_df160_9
set_option maxHeartbeats 4000000 in
theorem k_char1 (l : Launch) (dC : Nat → ClassId) (dI : Nat → Nat → Nat) (cB cI cJ cZ cP cQ : ClassId) (adK adV : Nat → Nat) (q0 : Option Nat) (sz : Nat) (i : Nat) (hi : i < 20) (x : Int32) (h1 : 0 ≤ x.toInt) (h2 : x.toInt < (zsLen.getD i 0 : Nat)) : Met l yJ1_charAt_3b067 wsJ1_charAt_3b067 ({ frames := 2, cells := 0, slots := 0, locals := 80 } : Room) (sPc [.ref (adV i), .int x] (dC, dI) (zT cB cI cJ cZ cP cQ) [] sz [] [] adK adV q0) (va_Qi (fun (r : Int32) (_ : Unit) => ∃ y : Int32, r = ((y &&& 255).toUInt32 % 65536).toInt32) (zB (dC, dI) (zT cB cI cJ cZ cP cQ) (fun _ : Unit => []) [] sz) (va_A [] sz)) 0 0 (va_A [] sz) := by
  refine s_enter (cc := cJ1_charAt_3b067) (maxL := 2) (ret := (some .char)) (by decide) rfl (Nat.le_of_ble_eq_true rfl) ?_
  intro p e s m below meth c A ls Q H locs hx hb hr hml hown hts hlocks hin hK hP hD hA hX hS hAe hQ hl hE
  have hown : s.vm.findClass RJ1 = some m.cls := hown
  have hl : lv_has ls 2 [(0, .ref (adV i)), (1, .int x)] := hl
  refine lv_iload_n hx hb dJ1_charAt_3b067_0 rfl (lv_at hl 1 rfl) ?_
  refine lv_aload_n hx hb dJ1_charAt_3b067_1 rfl (lv_at hl 0 rfl) ?_
  refine va_tlen hx hb (hE.1.1 i hi).2.2.2 hS (v := Int32.ofNat (zsLen.getD i 0)) rfl dJ1_charAt_3b067_2 ?_
  refine y_finv (w' := fun (_ : Unit) => []) (va_runS (As := [.int x, .int (Int32.ofNat (zsLen.getD i 0))]) (rest := []) ⟨hx, hb, hml, hown, hts⟩ (k_check0 l dC dI cB cI cJ cZ cP cQ adK adV q0 H.size x (Int32.ofNat (zsLen.getD i 0)) h1 (by rw [zs_len i hi]; exact h2)) (va_cwS 2 hts gJ1_charAt_3b067_J0_checkIndex_df160 rfl rfl rfl (by decide +kernel) ⟨Nat.le_of_ble_eq_true rfl, Nat.le_of_ble_eq_true rfl⟩) (s_pS hE hS hA hK hP hD zX_nil [] (by decide) rfl) rfl rfl hl.1 rfl (lv_room (Nat.le_of_ble_eq_true rfl)) dJ1_charAt_3b067_3 ⟨Nat.le_of_ble_eq_true rfl, Nat.le_of_ble_eq_true rfl⟩) hP hD hS hA [] [] [] rfl rfl (by decide) (by decide) (fun _ => rfl) (by decide) (fun u H locs hp hP hD hS => ?_)
  refine W.widen (k := 0) (n := 0) (by decide) (by decide) ?_
  refine lv_aload_n hx hb dJ1_charAt_3b067_6 rfl (lv_at hl 0 rfl) ?_
  refine lv_iload_n hx hb dJ1_charAt_3b067_7 rfl (lv_at hl 1 rfl) ?_
  refine va_tb hx hb (hE.1.1 i hi).2.2.2 hS (z_in rfl h1 h2) rfl dJ1_charAt_3b067_8 ?_
  refine lv_sipush (v := 255) hx hb dJ1_charAt_3b067_9 (by decide) ?_
  refine lv_iand hx hb dJ1_charAt_3b067_12 ?_
  refine lv_i2c hx hb dJ1_charAt_3b067_13 rfl ?_
  exact y_nret () hx hb hr hlocks hK hP hD hS hAe hQ rfl ⟨_, rfl⟩ (z_char _) dJ1_charAt_3b067_14
set_option maxHeartbeats 4000000 in
theorem k_charAt (l : Launch) (dC : Nat → ClassId) (dI : Nat → Nat → Nat) (cB cI cJ cZ cP cQ : ClassId) (adK adV : Nat → Nat) (q0 : Option Nat) (sz : Nat) (i : Nat) (hi : i < 20) (x : Int32) (h1 : 0 ≤ x.toInt) (h2 : x.toInt < (zsLen.getD i 0 : Nat)) : Met l yJ0_charAt_5068e wsJ0_charAt_5068e ({ frames := 3, cells := 0, slots := 0, locals := 120 } : Room) (sPc [.ref (adK i), .int x] (dC, dI) (zT cB cI cJ cZ cP cQ) [] sz [] [] adK adV q0) (va_Qi (fun (r : Int32) (_ : Unit) => True) (zB (dC, dI) (zT cB cI cJ cZ cP cQ) (fun _ : Unit => []) [] sz) (va_A [] sz)) 0 0 (va_A [] sz) := by
  refine s_enter (cc := cJ0_charAt_5068e) (maxL := 2) (ret := (some .char)) (by decide) rfl (Nat.le_of_ble_eq_true rfl) ?_
  intro p e s m below meth c A ls Q H locs hx hb hr hml hown hts hlocks hin hK hP hD hA hX hS hAe hQ hl hE
  have hown : s.vm.findClass RJ0 = some m.cls := hown
  have h3 := hts (.fieldLink RJ0 9 "java/lang/String" "value" "[B") (by decide +kernel)
  have hl : lv_has ls 2 [(0, .ref (adK i)), (1, .int x)] := hl
  refine lv_aload_n hx hb dJ0_charAt_5068e_0 rfl (lv_at hl 0 rfl) ?_
  refine y_fini (w' := fun (_ : Unit) => []) (va_runV (As := []) (rest := []) ⟨hx, hb, hml, hown, hts⟩ (k_isLatin1 l dC dI cB cI cJ cZ cP cQ adK adV q0 H.size i hi) (cwV 0 hts gJ0_charAt_5068e_J0_isLatin1_aae02 rfl rfl rfl (by decide +kernel) ⟨Nat.le_of_ble_eq_true rfl, Nat.le_of_ble_eq_true rfl⟩) (s_pT hE hi hS hA hK hP hD zX_nil [] (by decide) rfl) rfl rfl hl.1 rfl (lv_room (Nat.le_of_ble_eq_true rfl)) dJ0_charAt_5068e_1 ⟨Nat.le_of_ble_eq_true rfl, Nat.le_of_ble_eq_true rfl⟩) hP hD hS hA [] [] [] rfl rfl (by decide) (by decide) (fun _ => rfl) (by decide) (fun r u H locs hp hP hD hS => ?_)
  obtain rfl : r = 1 := hp
  refine W.widen (k := 0) (n := 0) (by decide) (by decide) ?_
  refine lv_if_eq (tgt := 16) hx hb dJ0_charAt_5068e_4 (by decide) (fun c => absurd c (by decide)) (fun _ => ?_)
  refine lv_aload_n hx hb dJ0_charAt_5068e_7 rfl (lv_at hl 0 rfl) ?_
  refine vk_getf hx hb (hE.1.1 i hi).2.2.1 hS hown h3 (fun _ h => h) dJ0_charAt_5068e_8 ?_
  refine lv_iload_n hx hb dJ0_charAt_5068e_11 rfl (lv_at hl 1 rfl) ?_
  refine y_fini (w' := fun (_ : Unit) => []) (va_runS (As := [.ref (adV i), .int x]) (rest := []) ⟨hx, hb, hml, hown, hts⟩ (k_char1 l dC dI cB cI cJ cZ cP cQ adK adV q0 H.size i hi x h1 h2) (va_cwS 2 hts gJ0_charAt_5068e_J1_charAt_3b067 rfl rfl rfl (by decide +kernel) ⟨Nat.le_of_ble_eq_true rfl, Nat.le_of_ble_eq_true rfl⟩) (s_pS hE hS hA hK hP hD zX_nil [] (by decide) rfl) rfl rfl hl.1 rfl (lv_room (Nat.le_of_ble_eq_true rfl)) dJ0_charAt_5068e_12 ⟨Nat.le_of_ble_eq_true rfl, Nat.le_of_ble_eq_true rfl⟩) hP hD hS hA [] [] [] rfl rfl (by decide) (by decide) (fun _ => rfl) (by decide) (fun r u H locs hp hP hD hS => ?_)
  obtain ⟨y, rfl⟩ : ∃ y : Int32, r = ((y &&& 255).toUInt32 % 65536).toInt32 := hp
  refine W.widen (k := 0) (n := 0) (by decide) (by decide) ?_
  exact y_nret () hx hb hr hlocks hK hP hD hS hAe hQ rfl trivial (z_char _) dJ0_charAt_5068e_15
