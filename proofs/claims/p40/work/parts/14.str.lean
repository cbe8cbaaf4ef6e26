theorem dJ0_coder_7d493_0 : decode cJ0_coder_7d493 0 = .ok (.getstatic 38, 3) := by decide +kernel
theorem dJ0_coder_7d493_3 : decode cJ0_coder_7d493 3 = .ok (.ifCond .eq 10, 3) := by decide +kernel
theorem dJ0_coder_7d493_6 : decode cJ0_coder_7d493 6 = .ok (.aload_n 0, 1) := by decide +kernel
theorem dJ0_coder_7d493_7 : decode cJ0_coder_7d493 7 = .ok (.getfield 15, 3) := by decide +kernel
theorem dJ0_coder_7d493_10 : decode cJ0_coder_7d493 10 = .ok (.goto 4, 3) := by decide +kernel
theorem dJ0_coder_7d493_14 : decode cJ0_coder_7d493 14 = .ok (.ireturn, 1) := by decide +kernel
theorem dJ0_isLatin1_aae02_0 : decode cJ0_isLatin1_aae02 0 = .ok (.getstatic 38, 3) := by decide +kernel
theorem dJ0_isLatin1_aae02_3 : decode cJ0_isLatin1_aae02 3 = .ok (.ifCond .eq 14, 3) := by decide +kernel
theorem dJ0_isLatin1_aae02_6 : decode cJ0_isLatin1_aae02 6 = .ok (.aload_n 0, 1) := by decide +kernel
theorem dJ0_isLatin1_aae02_7 : decode cJ0_isLatin1_aae02 7 = .ok (.getfield 15, 3) := by decide +kernel
theorem dJ0_isLatin1_aae02_10 : decode cJ0_isLatin1_aae02 10 = .ok (.ifCond .ne 7, 3) := by decide +kernel
theorem dJ0_isLatin1_aae02_13 : decode cJ0_isLatin1_aae02 13 = .ok (.iconst 1, 1) := by decide +kernel
theorem dJ0_isLatin1_aae02_14 : decode cJ0_isLatin1_aae02 14 = .ok (.goto 4, 3) := by decide +kernel
theorem dJ0_isLatin1_aae02_18 : decode cJ0_isLatin1_aae02 18 = .ok (.ireturn, 1) := by decide +kernel
theorem dJ0_length_8abf5_0 : decode cJ0_length_8abf5 0 = .ok (.aload_n 0, 1) := by decide +kernel
theorem dJ0_length_8abf5_1 : decode cJ0_length_8abf5 1 = .ok (.getfield 9, 3) := by decide +kernel
theorem dJ0_length_8abf5_4 : decode cJ0_length_8abf5 4 = .ok (.arraylength, 1) := by decide +kernel
theorem dJ0_length_8abf5_5 : decode cJ0_length_8abf5 5 = .ok (.aload_n 0, 1) := by decide +kernel
set_option maxRecDepth 20000 in
theorem ggJ0_length_8abf5_J0_coder_7d493 : GoodIn wsJ0_length_8abf5 wsJ0_coder_7d493 := goodIn_r _ [6, 7, 8] (by decide +kernel) (by decide +kernel)
set_option maxRecDepth 20000 in
theorem gJ0_length_8abf5_J0_coder_7d493 : GoodIn wsJ0_length_8abf5 (wsV RJ0 335 RJ0 yJ0_coder_7d493 wsJ0_coder_7d493) := goodIn_app (goodIn_of _ (by decide +kernel)) ggJ0_length_8abf5_J0_coder_7d493
theorem dJ0_length_8abf5_6 : decode cJ0_length_8abf5 6 = .ok (.invokevirtual 335, 3) := by decide +kernel
theorem dJ0_length_8abf5_9 : decode cJ0_length_8abf5 9 = .ok (.ishr, 1) := by decide +kernel
theorem dJ0_length_8abf5_10 : decode cJ0_length_8abf5 10 = .ok (.ireturn, 1) := by decide +kernel
theorem dJ3_checkIndex_8e157_0 : decode cJ3_checkIndex_8e157 0 = .ok (.iload_n 0, 1) := by decide +kernel
theorem dJ3_checkIndex_8e157_1 : decode cJ3_checkIndex_8e157 1 = .ok (.ifCond .lt 8, 3) := by decide +kernel
theorem dJ3_checkIndex_8e157_4 : decode cJ3_checkIndex_8e157 4 = .ok (.iload_n 0, 1) := by decide +kernel
theorem dJ3_checkIndex_8e157_5 : decode cJ3_checkIndex_8e157 5 = .ok (.iload_n 1, 1) := by decide +kernel
theorem dJ3_checkIndex_8e157_6 : decode cJ3_checkIndex_8e157 6 = .ok (.if_icmp .lt 10, 3) := by decide +kernel
theorem dJ3_checkIndex_8e157_16 : decode cJ3_checkIndex_8e157 16 = .ok (.iload_n 0, 1) := by decide +kernel
theorem dJ3_checkIndex_8e157_17 : decode cJ3_checkIndex_8e157 17 = .ok (.ireturn, 1) := by decide +kernel
theorem dJ0_checkIndex_df160_0 : decode cJ0_checkIndex_df160 0 = .ok (.iload_n 0, 1) := by decide +kernel
theorem dJ0_checkIndex_df160_1 : decode cJ0_checkIndex_df160 1 = .ok (.iload_n 1, 1) := by decide +kernel
theorem dJ0_checkIndex_df160_2 : decode cJ0_checkIndex_df160 2 = .ok (.getstatic 1053, 3) := by decide +kernel
set_option maxRecDepth 20000 in
theorem ggJ0_checkIndex_df160_J3_checkIndex_8e157 : GoodIn wsJ0_checkIndex_df160 wsJ3_checkIndex_8e157 := goodIn_r _ [5] (by decide +kernel) (by decide +kernel)
set_option maxRecDepth 20000 in
theorem gJ0_checkIndex_df160_J3_checkIndex_8e157 : GoodIn wsJ0_checkIndex_df160 (va_wsS RJ0 1059 yJ3_checkIndex_8e157 wsJ3_checkIndex_8e157) := goodIn_app (goodIn_of _ (by decide +kernel)) ggJ0_checkIndex_df160_J3_checkIndex_8e157
theorem dJ0_checkIndex_df160_5 : decode cJ0_checkIndex_df160 5 = .ok (.invokestatic 1059, 3) := by decide +kernel
theorem dJ0_checkIndex_df160_8 : decode cJ0_checkIndex_df160 8 = .ok (.pop, 1) := by decide +kernel
theorem dJ0_checkIndex_df160_9 : decode cJ0_checkIndex_df160 9 = .ok (.return_, 1) := by decide +kernel
theorem dJ1_charAt_3b067_0 : decode cJ1_charAt_3b067 0 = .ok (.iload_n 1, 1) := by decide +kernel
theorem dJ1_charAt_3b067_1 : decode cJ1_charAt_3b067 1 = .ok (.aload_n 0, 1) := by decide +kernel
theorem dJ1_charAt_3b067_2 : decode cJ1_charAt_3b067 2 = .ok (.arraylength, 1) := by decide +kernel
set_option maxRecDepth 20000 in
theorem ggJ1_charAt_3b067_J0_checkIndex_df160 : GoodIn wsJ1_charAt_3b067 wsJ0_checkIndex_df160 := goodIn_r _ [4, 5, 6, 7, 8, 9] (by decide +kernel) (by decide +kernel)
set_option maxRecDepth 20000 in
theorem gJ1_charAt_3b067_J0_checkIndex_df160 : GoodIn wsJ1_charAt_3b067 (va_wsS RJ1 9 yJ0_checkIndex_df160 wsJ0_checkIndex_df160) := goodIn_app (goodIn_of _ (by decide +kernel)) ggJ1_charAt_3b067_J0_checkIndex_df160
theorem dJ1_charAt_3b067_3 : decode cJ1_charAt_3b067 3 = .ok (.invokestatic 9, 3) := by decide +kernel
theorem dJ1_charAt_3b067_6 : decode cJ1_charAt_3b067 6 = .ok (.aload_n 0, 1) := by decide +kernel
theorem dJ1_charAt_3b067_7 : decode cJ1_charAt_3b067 7 = .ok (.iload_n 1, 1) := by decide +kernel
theorem dJ1_charAt_3b067_8 : decode cJ1_charAt_3b067 8 = .ok (.baload, 1) := by decide +kernel
theorem dJ1_charAt_3b067_9 : decode cJ1_charAt_3b067 9 = .ok (.sipush 255, 3) := by decide +kernel
theorem dJ1_charAt_3b067_12 : decode cJ1_charAt_3b067 12 = .ok (.iand, 1) := by decide +kernel
theorem dJ1_charAt_3b067_13 : decode cJ1_charAt_3b067 13 = .ok (.i2c, 1) := by decide +kernel
theorem dJ1_charAt_3b067_14 : decode cJ1_charAt_3b067 14 = .ok (.ireturn, 1) := by decide +kernel
theorem dJ0_charAt_5068e_0 : decode cJ0_charAt_5068e 0 = .ok (.aload_n 0, 1) := by decide +kernel
set_option maxRecDepth 20000 in
theorem ggJ0_charAt_5068e_J0_isLatin1_aae02 : GoodIn wsJ0_charAt_5068e wsJ0_isLatin1_aae02 := goodIn_r _ [6, 7, 8] (by decide +kernel) (by decide +kernel)
set_option maxRecDepth 20000 in
theorem gJ0_charAt_5068e_J0_isLatin1_aae02 : GoodIn wsJ0_charAt_5068e (wsV RJ0 492 RJ0 yJ0_isLatin1_aae02 wsJ0_isLatin1_aae02) := goodIn_app (goodIn_of _ (by decide +kernel)) ggJ0_charAt_5068e_J0_isLatin1_aae02
theorem dJ0_charAt_5068e_1 : decode cJ0_charAt_5068e 1 = .ok (.invokevirtual 492, 3) := by decide +kernel
theorem dJ0_charAt_5068e_4 : decode cJ0_charAt_5068e 4 = .ok (.ifCond .eq 12, 3) := by decide +kernel
theorem dJ0_charAt_5068e_7 : decode cJ0_charAt_5068e 7 = .ok (.aload_n 0, 1) := by decide +kernel
theorem dJ0_charAt_5068e_8 : decode cJ0_charAt_5068e 8 = .ok (.getfield 9, 3) := by decide +kernel
theorem dJ0_charAt_5068e_11 : decode cJ0_charAt_5068e 11 = .ok (.iload_n 1, 1) := by decide +kernel
set_option maxRecDepth 20000 in
theorem ggJ0_charAt_5068e_J1_charAt_3b067 : GoodIn wsJ0_charAt_5068e wsJ1_charAt_3b067 := goodIn_r _ [12, 13, 14, 5, 15, 16, 17, 18, 19, 20] (by decide +kernel) (by decide +kernel)
set_option maxRecDepth 20000 in
theorem gJ0_charAt_5068e_J1_charAt_3b067 : GoodIn wsJ0_charAt_5068e (va_wsS RJ0 495 yJ1_charAt_3b067 wsJ1_charAt_3b067) := goodIn_app (goodIn_of _ (by decide +kernel)) ggJ0_charAt_5068e_J1_charAt_3b067
theorem dJ0_charAt_5068e_12 : decode cJ0_charAt_5068e 12 = .ok (.invokestatic 495, 3) := by decide +kernel
theorem dJ0_charAt_5068e_15 : decode cJ0_charAt_5068e 15 = .ok (.ireturn, 1) := by decide +kernel
/-! own rows: the texts of the class, as they lie in the heap, and the JDK's length and charAt over them -/
def zsLen : List Nat := [3, 5, 5, 4, 5, 4, 4, 6, 4, 2, 4, 6, 5, 3, 6, 4, 5, 5, 4, 5]
def zsByt : List (List Int32) := [[108, 97, 119], [101, 110, 116, 101, 114], [108, 101, 97, 118, 101], [115, 111, 114, 116], [115, 104, 97, 114, 101], [103, 105, 102, 116], [119, 105, 115, 104], [115, 112, 114, 101, 97, 100], [108, 101, 97, 107], [98, 121], [119, 97, 103, 101], [115, 99, 104, 111, 111, 108], [109, 111, 110, 116, 104], [111, 108, 100], [102, 111, 114, 99, 101, 100], [112, 108, 117, 115], [109, 105, 110, 117, 115], [116, 105, 109, 101, 115], [111, 118, 101, 114], [110, 111, 105, 115, 101]]
def zsIx (i : Nat) : Nat × String := match i with
  | 0 => (46, "law")
  | 1 => (86, "enter")
  | 2 => (92, "leave")
  | 3 => (55, "sort")
  | 4 => (104, "share")
  | 5 => (106, "gift")
  | 6 => (108, "wish")
  | 7 => (110, "spread")
  | 8 => (60, "leak")
  | 9 => (123, "by")
  | 10 => (65, "wage")
  | 11 => (151, "school")
  | 12 => (153, "month")
  | 13 => (155, "old")
  | 14 => (157, "forced")
  | 15 => (162, "plus")
  | 16 => (164, "minus")
  | 17 => (166, "times")
  | 18 => (168, "over")
  | _ => (70, "noise")
def zv (o : Option Nat) : Value := match o with
  | none => .null
  | some a => .ref a
def zE (adK adV : Nat → Nat) (q0 : Option Nat) (A : Nat → Prop) (U : State) (H : Heap) : Prop := vk_S 20 zsLen zsByt adK adV A U H ∧ va_Z "java/lang/String" "COMPACT_STRINGS" "Z" (.int 1) A U H ∧ va_Z "jdk/internal/util/Preconditions" "SIOOBE_FORMATTER" "Ljava/util/function/BiFunction;" (zv q0) A U H ∧ ∀ i : Nat, i < 20 → vk_R RX7 (zsIx i).1 (zsIx i).2 (adK i) U
theorem zE_warm {adK adV : Nat → Nat} {q0 : Option Nat} {A : Nat → Prop} {s U : State} {H : Heap} (hW : s.WarmedH U.vm) (h : zE adK adV q0 A s H) : zE adK adV q0 A U H := ⟨vk_S.moved hW.alike h.1, va_Z.moved hW.alike h.2.1, va_Z.moved hW.alike h.2.2.1, fun i hi => vk_R.warm hW (h.2.2.2 i hi)⟩
theorem zE_kept {adK adV : Nat → Nat} {q0 : Option Nat} {A : Nat → Prop} {U : State} {H H1 : Heap} (h : zE adK adV q0 A U H) (hq : ∀ a : Nat, a < H.size → ¬ A a → H1[a]? = H[a]?) : zE adK adV q0 A U H1 := ⟨h.1.kept hq, h.2.1.kept hq, h.2.2.1.kept hq, h.2.2.2⟩
theorem zE_narrow {adK adV : Nat → Nat} {q0 : Option Nat} {A B : Nat → Prop} {U : State} {H : Heap} (h : zE adK adV q0 A U H) (hAB : ∀ q, B q → A q) : zE adK adV q0 B U H := ⟨h.1.narrow hAB, h.2.1.narrow hAB, h.2.2.1.narrow hAB, h.2.2.2⟩
theorem zE_call {adK adV : Nat → Nat} {q0 : Option Nat} {A : Nat → Prop} {U : State} {g : JFrame} {mk : MethodId} {a : Array Value} (h : zE adK adV q0 A U U.heap) : zE adK adV q0 A (U.calling g mk a) (U.calling g mk a).heap := ⟨vk_S.moved (Vm.Alike.refl U.vm) h.1, va_Z.moved (Vm.Alike.refl U.vm) h.2.1, va_Z.moved (Vm.Alike.refl U.vm) h.2.2.1, fun i hi => vk_R.same (u := U) rfl (h.2.2.2 i hi)⟩
def sPc (av : List Value) (D : va_G) (tys : List (ClassId × FieldType)) (w : va_W) (sz : Nat) (nws : List (String × Nat × MethodName × String)) (aos : List String) (adK adV : Nat → Nat) (q0 : Option Nat) : Array Value → State → Prop := va_Pc av (fun U => U.heap.size = sz ∧ va_P D vwCl w U.heap ∧ va_K D vwCl tys U ∧ va_D (fun _ => True) w ∧ zX nws aos U ∧ zE adK adV q0 (va_A w sz) U U.heap)
theorem s_blind {av : List Value} {D : va_G} {tys : List (ClassId × FieldType)} {w : va_W} {sz : Nat} {nws : List (String × Nat × MethodName × String)} {aos : List String} {adK adV : Nat → Nat} {q0 : Option Nat} : FrameBlind (sPc av D tys w sz nws aos adK adV q0) := fun a U g mk h => ⟨h.1, h.2.1, h.2.2.1, va_K.moved (u := U) (U := U.calling g mk a) (Vm.Alike.refl U.vm) h.2.2.2.1, h.2.2.2.2.1, zX_call h.2.2.2.2.2.1, zE_call h.2.2.2.2.2.2⟩
theorem s_pS {s : State} {H : Heap} {locs : List Loc} {av : List Value} {D : va_G} {tys : List (ClassId × FieldType)} {w wc : va_W} {A : Nat → Prop} {nws : List (String × Nat × MethodName × String)} {aos : List String} {adK adV : Nat → Nat} {q0 : Option Nat} (hE : zE adK adV q0 A s s.heap) (hS : va_S A s.heap H locs) (hA : ∀ q, s.heap.size ≤ q → A q) (hK : va_K D vwCl tys s) (hP : va_P D vwCl w H) (hD : va_D A w) (hX : zX nws aos s) (isC : List Nat) (hnd : va_nd isC = true) (hC : isC.map (fun i => w[i]?) = wc.map some) : PreS s H (sPc av D tys wc H.size nws aos adK adV q0) av :=
  ⟨s_blind, fun U hU hW => ⟨rfl, by rw [hU], by rw [hU]; exact hP.sub isC (z_fm hC), va_K.moved hW.alike hK, (hD.sub isC hnd hC).weaken (fun _ _ _ _ => trivial), zX_warm hW hX, by rw [hU]; exact zE_warm hW (zE_narrow (zE_kept hE hS.2.1) (va_free (wc := wc) hD hS hA isC hC))⟩⟩
theorem s_pV {s : State} {H : Heap} {locs : List Loc} {b : Nat} {As : List Value} {D : va_G} {tys : List (ClassId × FieldType)} {w wc : va_W} {A : Nat → Prop} {nws : List (String × Nat × MethodName × String)} {aos : List String} {adK adV : Nat → Nat} {q1 : Option Nat} {q : vw_C} {ci : Nat} {fs : List Value} (hE : zE adK adV q1 A s s.heap) (hS : va_S A s.heap H locs) (hA : ∀ q, s.heap.size ≤ q → A q) (hK : va_K D vwCl tys s) (hP : va_P D vwCl w H) (hD : va_D A w) (hX : zX nws aos s) (isC : List Nat) (hnd : va_nd isC = true) (hC : isC.map (fun i => w[i]?) = wc.map some) (hc : vwCl[ci]? = some q) (q0 : Nat) (he : w[q0]? = some (b, .inr (ci, fs))) : PreV s H q.1 b (sPc (.ref b :: As) D tys wc H.size nws aos adK adV q1) As :=
  ⟨s_blind, va_recv hK hP hc he, (s_pS (av := .ref b :: As) hE hS hA hK hP hD hX isC hnd hC).2⟩
theorem s_pT {s : State} {H : Heap} {locs : List Loc} {i : Nat} {As : List Value} {D : va_G} {tys : List (ClassId × FieldType)} {w wc : va_W} {A : Nat → Prop} {nws : List (String × Nat × MethodName × String)} {aos : List String} {adK adV : Nat → Nat} {q1 : Option Nat} (hE : zE adK adV q1 A s s.heap) (hi : i < 20) (hS : va_S A s.heap H locs) (hA : ∀ q, s.heap.size ≤ q → A q) (hK : va_K D vwCl tys s) (hP : va_P D vwCl w H) (hD : va_D A w) (hX : zX nws aos s) (isC : List Nat) (hnd : va_nd isC = true) (hC : isC.map (fun i => w[i]?) = wc.map some) : PreV s H RJ0 (adK i) (sPc (.ref (adK i) :: As) D tys wc H.size nws aos adK adV q1) As :=
  ⟨s_blind, vk_recv hE.1 hi hS, (s_pS (av := .ref (adK i) :: As) hE hS hA hK hP hD hX isC hnd hC).2⟩
section SW
variable {p : Program} {l : Launch} {e : Env} {R : Room} {s : State} {m : MethodId} {args : Array Value} {below : List Frame} {meth : Method} {c : Code} {H H0 : Heap} {locs : List Loc} {cells slots : Nat} {Q : State → Prop} {cc : ByteArray} {pc : Nat} {ls : Array Slot} {rest : List Value} {D : va_G} {tys : List (ClassId × FieldType)} {w : va_W} {A : Nat → Prop} {a : Nat}
theorem s_enter {y : MethodName} {ws ws' : List Cond} {rm : Room} {maxL : Nat} {ret : Option FieldType} {av : List Value} {sz : Nat} {nws : List (String × Nat × MethodName × String)} {aos : List String} {Qc : Array Value → State → Outcome → State → Prop} {mc ms : Nat} {adK adV : Nat → Nat} {q0 : Option Nat} (hy : plainName y.cls = true) (hw : ws = Cond.code y cc maxL ret :: ws') (hn : (lg_sl av).length ≤ maxL)
    (body : ∀ (p : Program) (e : Env) (s : State) (m : MethodId) (below : List Frame) (meth : Method) (c : Code) (A : Nat → Prop) (ls : Array Slot) (Q : State → Prop) (H : Heap) (locs : List Loc), p.tables.exec = Jvm.exec → c.code = cc → meth.sig.returnType = ret → c.maxLocals = maxL → s.vm.findClass y.cls = some m.cls → (∀ w ∈ ws, w.before av.toArray s = true) → meth.locks = false → meth.name = y.name → va_K D vwCl tys s → va_P D vwCl w H → va_D A w → (∀ q, s.heap.size ≤ q → A q) → zX nws aos s → va_S A s.heap H locs → A = va_A w sz → Q = MQ below Qc av.toArray s mc ms (va_A w sz) → lv_has ls maxL (lv_args 0 av) → zE adK adV q0 A s s.heap → W p l e rm s m av.toArray below meth c H locs 0 0 Q (F0 m 0 ls [])) : Met l y ws rm (sPc av D tys w sz nws aos adK adV q0) Qc mc ms (va_A w sz) := by
  refine Met.ofW (cc := cc) (maxL := maxL) (ret := ret) hy hw ?_
  intro p e s m args below meth c s₁ B hml hv
  obtain ⟨rfl, hsz, hP, hK, hD0, hX, hE⟩ := hv
  have hts := atoms_spec (ws := ws) B.pre
  have hown : s.vm.findClass y.cls = some m.cls := findClass_of_methodNamed B.named
  have hnm := (name_of_methodNamed B.named B.method).1
  subst hsz
  have hD := hD0.self (sz := s.heap.size)
  have hl := lv_entry av (n := maxL) hn
  rw [lg_entry_eq]
  exact body p e s m below meth c (va_A w s.heap.size) _ _ s.heap [] B.exec B.bytes B.returns hml hown hts B.notSynchronized hnm hK hP hD (fun q h => Or.inr h) hX va_S.rf rfl rfl hl hE
theorem y_nret {S : Type} {post : Int32 → S → Prop} {v : Int32} {ty : FieldType} {w2 : S → va_W} {w9 : va_W} {sz : Nat} (u : S) (hx : p.tables.exec = Jvm.exec) (hb : c.code = cc) (hr : meth.sig.returnType = some ty) (hlocks : meth.locks = false) (hK : va_K D vwCl tys s) (hP : va_P D vwCl w9 H) (hD : va_D A w9) (hS : va_S A s.heap H locs) (hAe : A = va_A w sz) (hQ : Q = MQ below (va_Qi post (zB D tys w2 w sz) (va_A w sz)) args s cells slots (va_A w sz)) (hw9 : w2 u = w9) (hp : post v u) (hnv : narrow ty (.int v) = .int v) (hdg : decode cc pc = .ok (.ireturn, 1)) : W p l e R s m args below meth c H locs cells slots Q (F0 m pc ls [.int v]) := by
  subst hw9 hAe hQ
  exact W.zret hx hb hr hnv (fun t ht hW => ⟨⟨v, u, rfl, hp, by rw [ht]; exact hP, va_K.moved hW.alike hK, hD⟩, hS.F ht⟩) hS.2.2 hdg hlocks
end SW
theorem zs_all : ∀ i, i < 20 → zsLen.getD i 0 ≤ 6 ∧ 1 ≤ zsLen.getD i 0 := by decide
theorem z_char (x : Int32) : narrow .char (.int (((x &&& 255).toUInt32 % 65536).toInt32)) = .int (((x &&& 255).toUInt32 % 65536).toInt32) := by
  have h : ((x &&& 255).toUInt32 % 65536).toInt32 = (((x &&& 255).toUInt32 % 65536).toInt32.toUInt32 % 65536).toInt32 := by
    congr 1
    apply UInt32.toNat_inj.mp
    simp
  exact congrArg Value.int h.symm
theorem zs_len : ∀ i, i < 20 → (Int32.ofNat (zsLen.getD i 0)).toInt = (zsLen.getD i 0 : Nat) := by decide
theorem zs_shr : ∀ i, i < 20 → (Int32.ofNat (zsLen.getD i 0) >>> ((0 : Int32) &&& 31)).toInt = (zsLen.getD i 0 : Nat) := by decide
set_option maxHeartbeats 4000000 in
theorem k_coder (l : Launch) (dC : Nat → ClassId) (dI : Nat → Nat → Nat) (cB cI cJ cZ cP cQ : ClassId) (adK adV : Nat → Nat) (q0 : Option Nat) (sz : Nat) (i : Nat) (hi : i < 20) : Met l yJ0_coder_7d493 wsJ0_coder_7d493 ({ frames := 0, cells := 0, slots := 0, locals := 0 } : Room) (sPc [.ref (adK i)] (dC, dI) (zT cB cI cJ cZ cP cQ) [] sz [] [] adK adV q0) (va_Qi (fun (r : Int32) (_ : Unit) => r = 0) (zB (dC, dI) (zT cB cI cJ cZ cP cQ) (fun _ : Unit => []) [] sz) (va_A [] sz)) 0 0 (va_A [] sz) := by
  refine s_enter (cc := cJ0_coder_7d493) (maxL := 1) (ret := (some .byte)) (by decide) rfl (Nat.le_of_ble_eq_true rfl) ?_
  intro p e s m below meth c A ls Q H locs hx hb hr hml hown hts hlocks hin hK hP hD hA hX hS hAe hQ hl hE
  have hown : s.vm.findClass RJ0 = some m.cls := hown
  have h1 := hts (.fieldLink RJ0 38 "java/lang/String" "COMPACT_STRINGS" "Z") (by decide +kernel)
  have h2 := hts (.fieldLink RJ0 15 "java/lang/String" "coder" "B") (by decide +kernel)
  have hl : lv_has ls 1 [(0, .ref (adK i))] := hl
  refine va_gets hx hb hE.2.1 hS hown h1 (fun _ h => h) dJ0_coder_7d493_0 ?_
  refine lv_if_eq (tgt := 13) hx hb dJ0_coder_7d493_3 (by decide) (fun c => absurd c (by decide)) (fun _ => ?_)
  refine lv_aload_n hx hb dJ0_coder_7d493_6 rfl (lv_at hl 0 rfl) ?_
  refine vk_getf hx hb (hE.1.1 i hi).2.1 hS hown h2 (fun _ h => h) dJ0_coder_7d493_7 ?_
  refine lv_goto (tgt := 14) hx hb dJ0_coder_7d493_10 (by decide) ?_
  exact y_nret () hx hb hr hlocks hK hP hD hS hAe hQ rfl rfl (by decide) dJ0_coder_7d493_14
set_option maxHeartbeats 4000000 in
theorem k_isLatin1 (l : Launch) (dC : Nat → ClassId) (dI : Nat → Nat → Nat) (cB cI cJ cZ cP cQ : ClassId) (adK adV : Nat → Nat) (q0 : Option Nat) (sz : Nat) (i : Nat) (hi : i < 20) : Met l yJ0_isLatin1_aae02 wsJ0_isLatin1_aae02 ({ frames := 0, cells := 0, slots := 0, locals := 0 } : Room) (sPc [.ref (adK i)] (dC, dI) (zT cB cI cJ cZ cP cQ) [] sz [] [] adK adV q0) (va_Qi (fun (r : Int32) (_ : Unit) => r = 1) (zB (dC, dI) (zT cB cI cJ cZ cP cQ) (fun _ : Unit => []) [] sz) (va_A [] sz)) 0 0 (va_A [] sz) := by
  refine s_enter (cc := cJ0_isLatin1_aae02) (maxL := 1) (ret := (some .boolean)) (by decide) rfl (Nat.le_of_ble_eq_true rfl) ?_
  intro p e s m below meth c A ls Q H locs hx hb hr hml hown hts hlocks hin hK hP hD hA hX hS hAe hQ hl hE
  have hown : s.vm.findClass RJ0 = some m.cls := hown
  have h1 := hts (.fieldLink RJ0 38 "java/lang/String" "COMPACT_STRINGS" "Z") (by decide +kernel)
  have h2 := hts (.fieldLink RJ0 15 "java/lang/String" "coder" "B") (by decide +kernel)
  have hl : lv_has ls 1 [(0, .ref (adK i))] := hl
  refine va_gets hx hb hE.2.1 hS hown h1 (fun _ h => h) dJ0_isLatin1_aae02_0 ?_
  refine lv_if_eq (tgt := 17) hx hb dJ0_isLatin1_aae02_3 (by decide) (fun c => absurd c (by decide)) (fun _ => ?_)
  refine lv_aload_n hx hb dJ0_isLatin1_aae02_6 rfl (lv_at hl 0 rfl) ?_
  refine vk_getf hx hb (hE.1.1 i hi).2.1 hS hown h2 (fun _ h => h) dJ0_isLatin1_aae02_7 ?_
  refine lv_if_ne (tgt := 17) hx hb dJ0_isLatin1_aae02_10 (by decide) (fun c => absurd (by decide) c) (fun _ => ?_)
  refine lv_iconst (v := 1) hx hb dJ0_isLatin1_aae02_13 (by decide) ?_
  refine lv_goto (tgt := 18) hx hb dJ0_isLatin1_aae02_14 (by decide) ?_
  exact y_nret () hx hb hr hlocks hK hP hD hS hAe hQ rfl rfl (by decide) dJ0_isLatin1_aae02_18
set_option maxHeartbeats 4000000 in
theorem k_length (l : Launch) (dC : Nat → ClassId) (dI : Nat → Nat → Nat) (cB cI cJ cZ cP cQ : ClassId) (adK adV : Nat → Nat) (q0 : Option Nat) (sz : Nat) (i : Nat) (hi : i < 20) : Met l yJ0_length_8abf5 wsJ0_length_8abf5 ({ frames := 1, cells := 0, slots := 0, locals := 30 } : Room) (sPc [.ref (adK i)] (dC, dI) (zT cB cI cJ cZ cP cQ) [] sz [] [] adK adV q0) (va_Qi (fun (r : Int32) (_ : Unit) => r.toInt = (zsLen.getD i 0 : Nat)) (zB (dC, dI) (zT cB cI cJ cZ cP cQ) (fun _ : Unit => []) [] sz) (va_A [] sz)) 0 0 (va_A [] sz) := by
  refine s_enter (cc := cJ0_length_8abf5) (maxL := 1) (ret := (some .int)) (by decide) rfl (Nat.le_of_ble_eq_true rfl) ?_
  intro p e s m below meth c A ls Q H locs hx hb hr hml hown hts hlocks hin hK hP hD hA hX hS hAe hQ hl hE
  have hown : s.vm.findClass RJ0 = some m.cls := hown
  have h1 := hts (.fieldLink RJ0 9 "java/lang/String" "value" "[B") (by decide +kernel)
  have hl : lv_has ls 1 [(0, .ref (adK i))] := hl
  refine lv_aload_n hx hb dJ0_length_8abf5_0 rfl (lv_at hl 0 rfl) ?_
  refine vk_getf hx hb (hE.1.1 i hi).2.2.1 hS hown h1 (fun _ h => h) dJ0_length_8abf5_1 ?_
  refine va_tlen hx hb (hE.1.1 i hi).2.2.2 hS (v := Int32.ofNat (zsLen.getD i 0)) rfl dJ0_length_8abf5_4 ?_
  refine lv_aload_n hx hb dJ0_length_8abf5_5 rfl (lv_at hl 0 rfl) ?_
  refine y_fini (w' := fun (_ : Unit) => []) (va_runV (As := []) (rest := [.int (Int32.ofNat (zsLen.getD i 0))]) ⟨hx, hb, hml, hown, hts⟩ (k_coder l dC dI cB cI cJ cZ cP cQ adK adV q0 H.size i hi) (cwV 0 hts gJ0_length_8abf5_J0_coder_7d493 rfl rfl rfl (by decide +kernel) ⟨Nat.le_of_ble_eq_true rfl, Nat.le_of_ble_eq_true rfl⟩) (s_pT hE hi hS hA hK hP hD zX_nil [] (by decide) rfl) rfl rfl hl.1 rfl (lv_room (Nat.le_of_ble_eq_true rfl)) dJ0_length_8abf5_6 ⟨Nat.le_of_ble_eq_true rfl, Nat.le_of_ble_eq_true rfl⟩) hP hD hS hA [] [] [] rfl rfl (by decide) (by decide) (fun _ => rfl) (by decide) (fun r u H locs hp hP hD hS => ?_)
  obtain rfl : r = 0 := hp
  refine W.widen (k := 0) (n := 0) (by decide) (by decide) ?_
  refine lv_ishr hx hb dJ0_length_8abf5_9 ?_
  exact y_iret () hx hb hr hlocks hK hP hD hS hAe hQ rfl (zs_shr i hi) dJ0_length_8abf5_10

set_option maxHeartbeats 4000000 in
theorem k_check3 (l : Launch) (dC : Nat → ClassId) (dI : Nat → Nat → Nat) (cB cI cJ cZ cP cQ : ClassId) (adK adV : Nat → Nat) (q0 : Option Nat) (sz : Nat) (x y : Int32) (a : Nat) (h1 : 0 ≤ x.toInt) (h2 : x.toInt < y.toInt) : Met l yJ3_checkIndex_8e157 wsJ3_checkIndex_8e157 ({ frames := 0, cells := 0, slots := 0, locals := 0 } : Room) (sPc [.int x, .int y, .ref a] (dC, dI) (zT cB cI cJ cZ cP cQ) [] sz [] [] adK adV q0) (va_Qi (fun (r : Int32) (_ : Unit) => True) (zB (dC, dI) (zT cB cI cJ cZ cP cQ) (fun _ : Unit => []) [] sz) (va_A [] sz)) 0 0 (va_A [] sz) := by
  refine s_enter (cc := cJ3_checkIndex_8e157) (maxL := 3) (ret := (some .int)) (by decide) rfl (Nat.le_of_ble_eq_true rfl) ?_
  intro p e s m below meth c A ls Q H locs hx hb hr hml hown hts hlocks hin hK hP hD hA hX hS hAe hQ hl hE
  have hown : s.vm.findClass RJ3 = some m.cls := hown
  have hl : lv_has ls 3 [(0, .int x), (1, .int y), (2, .ref a)] := hl
  refine lv_iload_n hx hb dJ3_checkIndex_8e157_0 rfl (lv_at hl 0 rfl) ?_
  refine lv_if_lt (tgt := 9) hx hb dJ3_checkIndex_8e157_1 (by decide) (fun c => absurd (z_lt rfl (show (0 : Int32).toInt = 0 from rfl) c) (by omega)) (fun _ => ?_)
  refine lv_iload_n hx hb dJ3_checkIndex_8e157_4 rfl (lv_at hl 0 rfl) ?_
  refine lv_iload_n hx hb dJ3_checkIndex_8e157_5 rfl (lv_at hl 1 rfl) ?_
  refine lv_icmp_lt (tgt := 16) hx hb dJ3_checkIndex_8e157_6 (by decide) (fun _ => ?_) (fun c => absurd (z_nlt rfl rfl c) (by omega))
  refine lv_iload_n hx hb dJ3_checkIndex_8e157_16 rfl (lv_at hl 0 rfl) ?_
  exact y_iret () hx hb hr hlocks hK hP hD hS hAe hQ rfl trivial dJ3_checkIndex_8e157_17
set_option maxHeartbeats 4000000 in
theorem k_check3n (l : Launch) (dC : Nat → ClassId) (dI : Nat → Nat → Nat) (cB cI cJ cZ cP cQ : ClassId) (adK adV : Nat → Nat) (q0 : Option Nat) (sz : Nat) (x y : Int32) (h1 : 0 ≤ x.toInt) (h2 : x.toInt < y.toInt) : Met l yJ3_checkIndex_8e157 wsJ3_checkIndex_8e157 ({ frames := 0, cells := 0, slots := 0, locals := 0 } : Room) (sPc [.int x, .int y, .null] (dC, dI) (zT cB cI cJ cZ cP cQ) [] sz [] [] adK adV q0) (va_Qi (fun (r : Int32) (_ : Unit) => True) (zB (dC, dI) (zT cB cI cJ cZ cP cQ) (fun _ : Unit => []) [] sz) (va_A [] sz)) 0 0 (va_A [] sz) := by
  refine s_enter (cc := cJ3_checkIndex_8e157) (maxL := 3) (ret := (some .int)) (by decide) rfl (Nat.le_of_ble_eq_true rfl) ?_
  intro p e s m below meth c A ls Q H locs hx hb hr hml hown hts hlocks hin hK hP hD hA hX hS hAe hQ hl hE
  have hown : s.vm.findClass RJ3 = some m.cls := hown
  have hl : lv_has ls 3 [(0, .int x), (1, .int y), (2, .null)] := hl
  refine lv_iload_n hx hb dJ3_checkIndex_8e157_0 rfl (lv_at hl 0 rfl) ?_
  refine lv_if_lt (tgt := 9) hx hb dJ3_checkIndex_8e157_1 (by decide) (fun c => absurd (z_lt rfl (show (0 : Int32).toInt = 0 from rfl) c) (by omega)) (fun _ => ?_)
  refine lv_iload_n hx hb dJ3_checkIndex_8e157_4 rfl (lv_at hl 0 rfl) ?_
  refine lv_iload_n hx hb dJ3_checkIndex_8e157_5 rfl (lv_at hl 1 rfl) ?_
  refine lv_icmp_lt (tgt := 16) hx hb dJ3_checkIndex_8e157_6 (by decide) (fun _ => ?_) (fun c => absurd (z_nlt rfl rfl c) (by omega))
  refine lv_iload_n hx hb dJ3_checkIndex_8e157_16 rfl (lv_at hl 0 rfl) ?_
  exact y_iret () hx hb hr hlocks hK hP hD hS hAe hQ rfl trivial dJ3_checkIndex_8e157_17
set_option maxHeartbeats 4000000 in
theorem k_check0 (l : Launch) (dC : Nat → ClassId) (dI : Nat → Nat → Nat) (cB cI cJ cZ cP cQ : ClassId) (adK adV : Nat → Nat) (q0 : Option Nat) (sz : Nat) (x y : Int32) (h1 : 0 ≤ x.toInt) (h2 : x.toInt < y.toInt) : Met l yJ0_checkIndex_df160 wsJ0_checkIndex_df160 ({ frames := 1, cells := 0, slots := 0, locals := 40 } : Room) (sPc [.int x, .int y] (dC, dI) (zT cB cI cJ cZ cP cQ) [] sz [] [] adK adV q0) (va_Qv (fun (_ : Unit) => True) (zB (dC, dI) (zT cB cI cJ cZ cP cQ) (fun _ : Unit => []) [] sz) (va_A [] sz)) 0 0 (va_A [] sz) := by
  refine s_enter (cc := cJ0_checkIndex_df160) (maxL := 2) (ret := none) (by decide) rfl (Nat.le_of_ble_eq_true rfl) ?_
  intro p e s m below meth c A ls Q H locs hx hb hr hml hown hts hlocks hin hK hP hD hA hX hS hAe hQ hl hE
  have hown : s.vm.findClass RJ0 = some m.cls := hown
  have h3 := hts (.fieldLink RJ0 1053 "jdk/internal/util/Preconditions" "SIOOBE_FORMATTER" "Ljava/util/function/BiFunction;") (by decide +kernel)
  have hl : lv_has ls 2 [(0, .int x), (1, .int y)] := hl
  refine lv_iload_n hx hb dJ0_checkIndex_df160_0 rfl (lv_at hl 0 rfl) ?_
  refine lv_iload_n hx hb dJ0_checkIndex_df160_1 rfl (lv_at hl 1 rfl) ?_
  refine va_gets hx hb hE.2.2.1 hS hown h3 (fun _ h => h) dJ0_checkIndex_df160_2 ?_
  cases q0 with
  | none =>
    refine y_fini (w' := fun (_ : Unit) => []) (va_runS (As := [.int x, .int y, .null]) (rest := []) ⟨hx, hb, hml, hown, hts⟩ (k_check3n l dC dI cB cI cJ cZ cP cQ adK adV none H.size x y h1 h2) (va_cwS 3 hts gJ0_checkIndex_df160_J3_checkIndex_8e157 rfl rfl rfl (by decide +kernel) ⟨Nat.le_of_ble_eq_true rfl, Nat.le_of_ble_eq_true rfl⟩) (s_pS hE hS hA hK hP hD zX_nil [] (by decide) rfl) rfl rfl hl.1 rfl (lv_room (Nat.le_of_ble_eq_true rfl)) dJ0_checkIndex_df160_5 ⟨Nat.le_of_ble_eq_true rfl, Nat.le_of_ble_eq_true rfl⟩) hP hD hS hA [] [] [] rfl rfl (by decide) (by decide) (fun _ => rfl) (by decide) (fun r u H locs hp hP hD hS => ?_)
    refine W.widen (k := 0) (n := 0) (by decide) (by decide) ?_
    refine lv_pop hx hb dJ0_checkIndex_df160_8 rfl ?_
    exact y_vret () hx hb hr hlocks hK hP hD hS hAe hQ rfl trivial dJ0_checkIndex_df160_9
  | some q0 =>
    refine y_fini (w' := fun (_ : Unit) => []) (va_runS (As := [.int x, .int y, .ref q0]) (rest := []) ⟨hx, hb, hml, hown, hts⟩ (k_check3 l dC dI cB cI cJ cZ cP cQ adK adV (some q0) H.size x y q0 h1 h2) (va_cwS 3 hts gJ0_checkIndex_df160_J3_checkIndex_8e157 rfl rfl rfl (by decide +kernel) ⟨Nat.le_of_ble_eq_true rfl, Nat.le_of_ble_eq_true rfl⟩) (s_pS hE hS hA hK hP hD zX_nil [] (by decide) rfl) rfl rfl hl.1 rfl (lv_room (Nat.le_of_ble_eq_true rfl)) dJ0_checkIndex_df160_5 ⟨Nat.le_of_ble_eq_true rfl, Nat.le_of_ble_eq_true rfl⟩) hP hD hS hA [] [] [] rfl rfl (by decide) (by decide) (fun _ => rfl) (by decide) (fun r u H locs hp hP hD hS => ?_)
    refine W.widen (k := 0) (n := 0) (by decide) (by decide) ?_
    refine lv_pop hx hb dJ0_checkIndex_df160_8 rfl ?_
    exact y_vret () hx hb hr hlocks hK hP hD hS hAe hQ rfl trivial dJ0_checkIndex_df160_9
set_option maxHeartbeats 4000000 in
theorem k_char1 (l : Launch) (dC : Nat → ClassId) (dI : Nat → Nat → Nat) (cB cI cJ cZ cP cQ : ClassId) (adK adV : Nat → Nat) (q0 : Option Nat) (sz : Nat) (i : Nat) (hi : i < 20) (x : Int32) (h1 : 0 ≤ x.toInt) (h2 : x.toInt < (zsLen.getD i 0 : Nat)) : Met l yJ1_charAt_3b067 wsJ1_charAt_3b067 ({ frames := 2, cells := 0, slots := 0, locals := 80 } : Room) (sPc [.ref (adV i), .int x] (dC, dI) (zT cB cI cJ cZ cP cQ) [] sz [] [] adK adV q0) (va_Qi (fun (r : Int32) (_ : Unit) => ∃ y : Int32, r = ((y &&& 255).toUInt32 % 65536).toInt32) (zB (dC, dI) (zT cB cI cJ cZ cP cQ) (fun _ : Unit => []) [] sz) (va_A [] sz)) 0 0 (va_A [] sz) := by
  refine s_enter (cc := cJ1_charAt_3b067) (maxL := 2) (ret := (some .char)) (by decide) rfl (Nat.le_of_ble_eq_true rfl) ?_
  intro p e s m below meth c A ls Q H locs hx hb hr hml hown hts hlocks hin hK hP hD hA hX hS hAe hQ hl hE
  have hown : s.vm.findClass RJ1 = some m.cls := hown
  have hl : lv_has ls 2 [(0, .ref (adV i)), (1, .int x)] := hl
  refine lv_iload_n hx hb dJ1_charAt_3b067_0 rfl (lv_at hl 1 rfl) ?_
  refine lv_aload_n hx hb dJ1_charAt_3b067_1 rfl (lv_at hl 0 rfl) ?_
  refine va_tlen hx hb (hE.1.1 i hi).2.2.2 hS (v := Int32.ofNat (zsLen.getD i 0)) rfl dJ1_charAt_3b067_2 ?_
  refine y_finv (w' := fun (_ : Unit) => []) (va_runS (As := [.int x, .int (Int32.ofNat (zsLen.getD i 0))]) (rest := []) ⟨hx, hb, hml, hown, hts⟩ (k_check0 l dC dI cB cI cJ cZ cP cQ adK adV q0 H.size x (Int32.ofNat (zsLen.getD i 0)) h1 (by rw [zs_len i hi]; exact h2)) (va_cwS 2 hts gJ1_charAt_3b067_J0_checkIndex_df160 rfl rfl rfl (by decide +kernel) ⟨Nat.le_of_ble_eq_true rfl, Nat.le_of_ble_eq_true rfl⟩) (s_pS hE hS hA hK hP hD zX_nil [] (by decide) rfl) rfl rfl hl.1 rfl (lv_room (Nat.le_of_ble_eq_true rfl)) dJ1_charAt_3b067_3 ⟨Nat.le_of_ble_eq_true rfl, Nat.le_of_ble_eq_true rfl⟩) hP hD hS hA [] [] [] rfl rfl (by decide) (by decide) (fun _ => rfl) (by decide) (fun u H locs hp hP hD hS => ?_)
  refine W.widen (k := 0) (n := 0) (by decide) (by decide) ?_
  refine lv_aload_n hx hb dJ1_charAt_3b067_6 rfl (lv_at hl 0 rfl) ?_
  refine lv_iload_n hx hb dJ1_charAt_3b067_7 rfl (lv_at hl 1 rfl) ?_
  refine va_tb hx hb (hE.1.1 i hi).2.2.2 hS (z_in rfl h1 h2) rfl dJ1_charAt_3b067_8 ?_
  refine lv_sipush (v := 255) hx hb dJ1_charAt_3b067_9 (by decide) ?_
  refine lv_iand hx hb dJ1_charAt_3b067_12 ?_
  refine lv_i2c hx hb dJ1_charAt_3b067_13 rfl ?_
  exact y_nret () hx hb hr hlocks hK hP hD hS hAe hQ rfl ⟨_, rfl⟩ (z_char _) dJ1_charAt_3b067_14
set_option maxHeartbeats 4000000 in
theorem k_charAt (l : Launch) (dC : Nat → ClassId) (dI : Nat → Nat → Nat) (cB cI cJ cZ cP cQ : ClassId) (adK adV : Nat → Nat) (q0 : Option Nat) (sz : Nat) (i : Nat) (hi : i < 20) (x : Int32) (h1 : 0 ≤ x.toInt) (h2 : x.toInt < (zsLen.getD i 0 : Nat)) : Met l yJ0_charAt_5068e wsJ0_charAt_5068e ({ frames := 3, cells := 0, slots := 0, locals := 120 } : Room) (sPc [.ref (adK i), .int x] (dC, dI) (zT cB cI cJ cZ cP cQ) [] sz [] [] adK adV q0) (va_Qi (fun (r : Int32) (_ : Unit) => True) (zB (dC, dI) (zT cB cI cJ cZ cP cQ) (fun _ : Unit => []) [] sz) (va_A [] sz)) 0 0 (va_A [] sz) := by
  refine s_enter (cc := cJ0_charAt_5068e) (maxL := 2) (ret := (some .char)) (by decide) rfl (Nat.le_of_ble_eq_true rfl) ?_
  intro p e s m below meth c A ls Q H locs hx hb hr hml hown hts hlocks hin hK hP hD hA hX hS hAe hQ hl hE
  have hown : s.vm.findClass RJ0 = some m.cls := hown
  have h3 := hts (.fieldLink RJ0 9 "java/lang/String" "value" "[B") (by decide +kernel)
  have hl : lv_has ls 2 [(0, .ref (adK i)), (1, .int x)] := hl
  refine lv_aload_n hx hb dJ0_charAt_5068e_0 rfl (lv_at hl 0 rfl) ?_
  refine y_fini (w' := fun (_ : Unit) => []) (va_runV (As := []) (rest := []) ⟨hx, hb, hml, hown, hts⟩ (k_isLatin1 l dC dI cB cI cJ cZ cP cQ adK adV q0 H.size i hi) (cwV 0 hts gJ0_charAt_5068e_J0_isLatin1_aae02 rfl rfl rfl (by decide +kernel) ⟨Nat.le_of_ble_eq_true rfl, Nat.le_of_ble_eq_true rfl⟩) (s_pT hE hi hS hA hK hP hD zX_nil [] (by decide) rfl) rfl rfl hl.1 rfl (lv_room (Nat.le_of_ble_eq_true rfl)) dJ0_charAt_5068e_1 ⟨Nat.le_of_ble_eq_true rfl, Nat.le_of_ble_eq_true rfl⟩) hP hD hS hA [] [] [] rfl rfl (by decide) (by decide) (fun _ => rfl) (by decide) (fun r u H locs hp hP hD hS => ?_)
  obtain rfl : r = 1 := hp
  refine W.widen (k := 0) (n := 0) (by decide) (by decide) ?_
  refine lv_if_eq (tgt := 16) hx hb dJ0_charAt_5068e_4 (by decide) (fun c => absurd c (by decide)) (fun _ => ?_)
  refine lv_aload_n hx hb dJ0_charAt_5068e_7 rfl (lv_at hl 0 rfl) ?_
  refine vk_getf hx hb (hE.1.1 i hi).2.2.1 hS hown h3 (fun _ h => h) dJ0_charAt_5068e_8 ?_
  refine lv_iload_n hx hb dJ0_charAt_5068e_11 rfl (lv_at hl 1 rfl) ?_
  refine y_fini (w' := fun (_ : Unit) => []) (va_runS (As := [.ref (adV i), .int x]) (rest := []) ⟨hx, hb, hml, hown, hts⟩ (k_char1 l dC dI cB cI cJ cZ cP cQ adK adV q0 H.size i hi x h1 h2) (va_cwS 2 hts gJ0_charAt_5068e_J1_charAt_3b067 rfl rfl rfl (by decide +kernel) ⟨Nat.le_of_ble_eq_true rfl, Nat.le_of_ble_eq_true rfl⟩) (s_pS hE hS hA hK hP hD zX_nil [] (by decide) rfl) rfl rfl hl.1 rfl (lv_room (Nat.le_of_ble_eq_true rfl)) dJ0_charAt_5068e_12 ⟨Nat.le_of_ble_eq_true rfl, Nat.le_of_ble_eq_true rfl⟩) hP hD hS hA [] [] [] rfl rfl (by decide) (by decide) (fun _ => rfl) (by decide) (fun r u H locs hp hP hD hS => ?_)
  obtain ⟨y, rfl⟩ : ∃ y : Int32, r = ((y &&& 255).toUInt32 % 65536).toInt32 := hp
  refine W.widen (k := 0) (n := 0) (by decide) (by decide) ?_
  exact y_nret () hx hb hr hlocks hK hP hD hS hAe hQ rfl trivial (z_char _) dJ0_charAt_5068e_15
/-! own rows: contracts widened to a whole object and what lies beside it -/
theorem f_Pl {D : va_G} {cl : List vw_C} {a b : va_W} {H : Heap} (h : va_P D cl (a ++ b) H) : va_P D cl a H := fun k q hk => h k q (by rw [List.getElem?_append_left (List.getElem?_eq_some_iff.mp hk).1]; exact hk)
theorem f_r {a b : va_W} {k : Nat} {q : Nat × va_E} (hk : b[k]? = some q) : (a ++ b)[a.length + k]? = some q := by
  rw [List.getElem?_append_right (Nat.le_add_right _ _), Nat.add_sub_cancel_left]
  exact hk
theorem f_l {a b : va_W} {k : Nat} {q : Nat × va_E} (hk : a[k]? = some q) : (a ++ b)[k]? = some q := by
  rw [List.getElem?_append_left (List.getElem?_eq_some_iff.mp hk).1]
  exact hk
theorem f_Pr {D : va_G} {cl : List vw_C} {a b : va_W} {H : Heap} (h : va_P D cl (a ++ b) H) : va_P D cl b H := fun k q hk => h (a.length + k) q (f_r hk)
theorem f_Dl {A : Nat → Prop} {a b : va_W} (h : va_D A (a ++ b)) : va_D A a := ⟨fun i j p q hi hj e => h.1 i j p q (f_l hi) (f_l hj) e, fun k q hk => h.2 k q (f_l hk)⟩
theorem f_Dr {A : Nat → Prop} {a b : va_W} (h : va_D A (a ++ b)) : va_D A b := ⟨fun i j p q hi hj e => by
  have := h.1 (a.length + i) (a.length + j) p q (f_r hi) (f_r hj) e
  omega, fun k q hk => h.2 _ q (f_r hk)⟩
theorem f_Dx {A : Nat → Prop} {a b : va_W} (h : va_D A (a ++ b)) (i j : Nat) (p q : Nat × va_E) (hi : a[i]? = some p) (hj : b[j]? = some q) : p.1 ≠ q.1 := fun e => by
  have h1 := h.1 i (a.length + j) p q (f_l hi) (f_r hj) e
  have h2 := (List.getElem?_eq_some_iff.mp hi).1
  omega
theorem f_src {is : List Nat} {w w0 : va_W} (h : is.map (fun i => w[i]?) = w0.map some) {k : Nat} {x : Nat × va_E} (hk : w0[k]? = some x) : ∃ i, w[i]? = some x := by
  have h1 : (w0.map some)[k]? = some (some x) := by
    rw [List.getElem?_map, hk]
    rfl
  rw [← h, List.getElem?_map] at h1
  cases hi : is[k]? with
  | none =>
    rw [hi] at h1
    cases h1
  | some i =>
    rw [hi] at h1
    exact ⟨i, Option.some.inj h1⟩
theorem f_join {D : va_G} {A : Nat → Prop} {H H1 : Heap} {w wi wc w1 w' : va_W} (hP : va_P D vwCl (w ++ wi) H) (hD : va_D A (w ++ wi)) (isC isR pm : List Nat) (hC : isC.map (fun i => w[i]?) = wc.map some) (hR : isR.map (fun i => w[i]?) = (isR.filterMap (fun i => w[i]?)).map some) (hn : va_nd isR = true) (hdis : ∀ i ∈ isR, i ∉ isC) (hpm : pm.map (fun i => (isR.filterMap (fun i => w[i]?) ++ w1)[i]?) = w'.map some) (hnp : va_nd pm = true)
    (hk : ∀ q : Nat, q < H.size → ¬ va_A wc H.size q → H1[q]? = H[q]?) (hF : ∀ q, va_A wc H.size q → A q) (hP1 : va_P D vwCl w1 H1) (hD1 : va_D (va_A wc H.size) w1) : va_P D vwCl (w' ++ wi) H1 ∧ va_D A (w' ++ wi) := by
  obtain ⟨h1, h2⟩ := z_join (w1 := fun (_ : Unit) => w1) (w' := fun (_ : Unit) => w') () (f_Pl hP) (f_Dl hD) isC isR pm hC hR hn hdis (fun _ => hpm) hnp hk hF hP1 hD1
  have hwi : ∀ (j : Nat) (q : Nat × va_E), wi[j]? = some q → ¬ va_A wc H.size q.1 := by
    intro j q hj hq
    rcases hq with ⟨k, e, hk'⟩ | hge
    · obtain ⟨i, hi⟩ := f_src hC hk'
      exact f_Dx hD i j _ q hi hj rfl
    · have := ((f_Pr hP) j q hj).lt
      omega
  refine ⟨h1.app ((f_Pr hP).kept (fun k q hk' => hk q.1 ((f_Pr hP) k q hk').lt (hwi k q hk'))), h2.app (f_Dr hD) ?_⟩
  intro i j p q hi hj e
  obtain ⟨n, hn'⟩ := f_src hpm hi
  by_cases hl : n < (isR.filterMap (fun i => w[i]?)).length
  · rw [List.getElem?_append_left hl] at hn'
    obtain ⟨x, -, hx⟩ := List.mem_filterMap.mp (List.mem_of_getElem? hn')
    exact f_Dx hD x j p q hx hj e
  · rw [List.getElem?_append_right (by omega)] at hn'
    have := hD1.2 _ p hn'
    rw [e] at this
    exact hwi j q hj this
theorem f_conseq {l : Launch} {y : MethodName} {ws : List Cond} {rm : Room} {Pc Pc' : Array Value → State → Prop} {Qc Qc' : Array Value → State → Outcome → State → Prop} {mc ms : Nat} {free free' : Addr → Prop} (h : Met l y ws rm Pc Qc mc ms free) (hP : ∀ a s, Pc' a s → Pc a s) (hQ : ∀ a s o t, Pc' a s → Qc a s o t → Qc' a s o t) (hf : ∀ q, free q → free' q) : Met l y ws rm Pc' Qc' mc ms free' := fun p e h1 h2 h3 s m args below hs ha hp hk => by
  obtain ⟨n, o, a1, a2, a3, q, L, f1, f2⟩ := h p e h1 h2 h3 s m args below hs ha (hP _ _ hp) hk
  exact ⟨n, o, a1, a2, a3, hQ _ _ _ _ hp q, L, f1, fun q hq => hf _ (f2 q hq)⟩
theorem f_in {w wi wc : va_W} {sz : Nat} {isC : List Nat} (hC : isC.map (fun i => w[i]?) = wc.map some) : ∀ q, va_A wc sz q → va_A (w ++ wi) sz q := by
  intro q hq
  rcases hq with ⟨k, e, hk⟩ | h
  · obtain ⟨i, hi⟩ := f_src hC hk
    exact Or.inl ⟨i, e, f_l hi⟩
  · exact Or.inr h
-- the order of the cells tells nothing
theorem f_Pm {D : va_G} {cl : List vw_C} {w w' : va_W} {H : Heap} (hp : w.Perm w') (h : va_P D cl w H) : va_P D cl w' H := fun k q hk => by
  obtain ⟨i, hi⟩ := List.mem_iff_getElem?.mp (hp.mem_iff.mpr (List.mem_of_getElem? hk))
  exact h i q hi
theorem f_Dc {A : Nat → Prop} {x : Nat × va_E} {l : va_W} (hx : A x.1) (h : va_D A l) (hd : ∀ q ∈ l, x.1 ≠ q.1) : va_D A (x :: l) := by
  have h1 : va_D A [x] := ⟨fun i j p q hi hj _ => by
    have := (List.getElem?_eq_some_iff.mp hi).1
    have := (List.getElem?_eq_some_iff.mp hj).1
    simp at *
    omega, fun k q hk => by
    have : q ∈ [x] := List.mem_of_getElem? hk
    rw [List.mem_singleton.mp this]
    exact hx⟩
  exact va_D.app (w1 := [x]) h1 h (fun i j p q hi hj => by
    have hp : p ∈ [x] := List.mem_of_getElem? hi
    rw [List.mem_singleton.mp hp]
    exact hd q (List.mem_of_getElem? hj))
theorem f_Dm {A : Nat → Prop} {w w' : va_W} (hp : w.Perm w') : va_D A w → va_D A w' := by
  induction hp with
  | nil => exact fun h => h
  | @cons x l1 l2 hq ih =>
    intro h
    have h : va_D A ([x] ++ l1) := h
    refine f_Dc (h.2 0 x rfl) (ih (f_Dr h)) (fun q hq' => ?_)
    obtain ⟨j, hj⟩ := List.mem_iff_getElem?.mp (hq.mem_iff.mpr hq')
    exact f_Dx h 0 j x q rfl hj
  | swap x y l =>
    intro h
    have h1 : va_D A ([y] ++ ([x] ++ l)) := h
    have h2 := f_Dr h1
    refine f_Dc (h2.2 0 x rfl) (f_Dc (h1.2 0 y rfl) (f_Dr h2) (fun q hq => ?_)) (fun q hq => ?_)
    · obtain ⟨j, hj⟩ := List.mem_iff_getElem?.mp hq
      exact f_Dx h1 0 (1 + j) y q rfl (f_r (a := [x]) hj)
    · rcases List.mem_cons.mp hq with rfl | hq
      · exact fun e => f_Dx h1 0 0 q x rfl rfl e.symm
      · obtain ⟨j, hj⟩ := List.mem_iff_getElem?.mp hq
        exact f_Dx h2 0 j x q rfl hj
  | trans _ _ h1 h2 => exact fun h => h2 (h1 h)
theorem f_Am {w w' : va_W} {sz : Nat} (hp : w.Perm w') (q : Nat) (h : va_A w sz q) : va_A w' sz q := by
  rcases h with ⟨k, e, hk⟩ | h
  · obtain ⟨i, hi⟩ := List.mem_iff_getElem?.mp (hp.mem_iff.mp (List.mem_of_getElem? hk))
    exact Or.inl ⟨i, e, hi⟩
  · exact Or.inr h
section FP
variable {l : Launch} {y : MethodName} {ws : List Cond} {rm : Room} {mc ms : Nat} {S : Type} {D : va_G} {tys : List (ClassId × FieldType)} {w wi wc : va_W} {w1 : S → va_W} {av : List Value} {sz : Nat} {nws nws' : List (String × Nat × MethodName × String)} {aos aos' : List String} {adK adV : Nat → Nat} {q0 : Option Nat}
theorem f_pubi {post : Int32 → S → Prop} {post' : Int32 → va_W → Prop} (h : Met l y ws rm (zPc av D tys wc sz nws aos) (va_Qi post (zB D tys w1 wc sz) (va_A wc sz)) mc ms (va_A wc sz)) (isC isR pm : List Nat) (hnd : va_nd isC = true) (hC : isC.map (fun i => w[i]?) = wc.map some) (hR : isR.map (fun i => w[i]?) = (isR.filterMap (fun i => w[i]?)).map some) (hn : va_nd isR = true) (hdis : ∀ i ∈ isR, i ∉ isC) (hnp : va_nd pm = true) (h1 : ∀ q ∈ nws, q ∈ nws') (h2 : ∀ q ∈ aos, q ∈ aos') (hp : ∀ r u, post r u → ∃ w' : va_W, pm.map (fun i => (isR.filterMap (fun i => w[i]?) ++ w1 u)[i]?) = w'.map some ∧ post' r (w' ++ wi)) : Met l y ws rm (sPc av D tys (w ++ wi) sz nws' aos' adK adV q0) (va_Qi post' (zB D tys (fun x => x) (w ++ wi) sz) (va_A (w ++ wi) sz)) mc ms (va_A (w ++ wi) sz) := by
  refine f_conseq h ?_ ?_ (f_in hC)
  · rintro a s ⟨ha, hsz, hP, hK, hD, hX, -⟩
    exact ⟨ha, hsz, (f_Pl hP).sub isC (z_fm hC), hK, (f_Dl hD).sub isC hnd hC, zX_sub hX h1 h2⟩
  · rintro a s o t ⟨ha, hsz, hP, hK, hD, hX, -⟩ ⟨⟨r, u, ho, hpo, hP1, hK1, hD1⟩, hF⟩
    subst hsz
    obtain ⟨w', hpm, hpo'⟩ := hp r u hpo
    obtain ⟨k1, k2⟩ := f_join (A := va_A (w ++ wi) s.heap.size) hP hD.self isC isR pm hC hR hn hdis hpm hnp (fun q h3 h4 => hF.2 q h3 h4) (f_in hC) hP1 hD1
    exact ⟨⟨r, w' ++ wi, ho, hpo', k1, hK1, k2⟩, ⟨hF.1, fun q h3 h4 => hF.2 q h3 (fun k => h4 (f_in hC q k))⟩⟩
theorem f_publ {post : Int64 → S → Prop} {post' : Int64 → va_W → Prop} (h : Met l y ws rm (zPc av D tys wc sz nws aos) (va_Ql post (zB D tys w1 wc sz) (va_A wc sz)) mc ms (va_A wc sz)) (isC isR pm : List Nat) (hnd : va_nd isC = true) (hC : isC.map (fun i => w[i]?) = wc.map some) (hR : isR.map (fun i => w[i]?) = (isR.filterMap (fun i => w[i]?)).map some) (hn : va_nd isR = true) (hdis : ∀ i ∈ isR, i ∉ isC) (hnp : va_nd pm = true) (h1 : ∀ q ∈ nws, q ∈ nws') (h2 : ∀ q ∈ aos, q ∈ aos') (hp : ∀ r u, post r u → ∃ w' : va_W, pm.map (fun i => (isR.filterMap (fun i => w[i]?) ++ w1 u)[i]?) = w'.map some ∧ post' r (w' ++ wi)) : Met l y ws rm (sPc av D tys (w ++ wi) sz nws' aos' adK adV q0) (va_Ql post' (zB D tys (fun x => x) (w ++ wi) sz) (va_A (w ++ wi) sz)) mc ms (va_A (w ++ wi) sz) := by
  refine f_conseq h ?_ ?_ (f_in hC)
  · rintro a s ⟨ha, hsz, hP, hK, hD, hX, -⟩
    exact ⟨ha, hsz, (f_Pl hP).sub isC (z_fm hC), hK, (f_Dl hD).sub isC hnd hC, zX_sub hX h1 h2⟩
  · rintro a s o t ⟨ha, hsz, hP, hK, hD, hX, -⟩ ⟨⟨r, u, ho, hpo, hP1, hK1, hD1⟩, hF⟩
    subst hsz
    obtain ⟨w', hpm, hpo'⟩ := hp r u hpo
    obtain ⟨k1, k2⟩ := f_join (A := va_A (w ++ wi) s.heap.size) hP hD.self isC isR pm hC hR hn hdis hpm hnp (fun q h3 h4 => hF.2 q h3 h4) (f_in hC) hP1 hD1
    exact ⟨⟨r, w' ++ wi, ho, hpo', k1, hK1, k2⟩, ⟨hF.1, fun q h3 h4 => hF.2 q h3 (fun k => h4 (f_in hC q k))⟩⟩
theorem f_pubs {post : Int32 → S → Prop} {post' : Int32 → va_W → Prop} (h : Met l y ws rm (sPc av D tys wc sz nws aos adK adV q0) (va_Qi post (zB D tys w1 wc sz) (va_A wc sz)) mc ms (va_A wc sz)) (isC isR pm : List Nat) (hnd : va_nd isC = true) (hC : isC.map (fun i => w[i]?) = wc.map some) (hR : isR.map (fun i => w[i]?) = (isR.filterMap (fun i => w[i]?)).map some) (hn : va_nd isR = true) (hdis : ∀ i ∈ isR, i ∉ isC) (hnp : va_nd pm = true) (h1 : ∀ q ∈ nws, q ∈ nws') (h2 : ∀ q ∈ aos, q ∈ aos') (hp : ∀ r u, post r u → ∃ w' : va_W, pm.map (fun i => (isR.filterMap (fun i => w[i]?) ++ w1 u)[i]?) = w'.map some ∧ post' r (w' ++ wi)) : Met l y ws rm (sPc av D tys (w ++ wi) sz nws' aos' adK adV q0) (va_Qi post' (zB D tys (fun x => x) (w ++ wi) sz) (va_A (w ++ wi) sz)) mc ms (va_A (w ++ wi) sz) := by
  refine f_conseq h ?_ ?_ (f_in hC)
  · rintro a s ⟨ha, hsz, hP, hK, hD, hX, hE⟩
    exact ⟨ha, hsz, (f_Pl hP).sub isC (z_fm hC), hK, (f_Dl hD).sub isC hnd hC, zX_sub hX h1 h2, zE_narrow hE (f_in hC)⟩
  · rintro a s o t ⟨ha, hsz, hP, hK, hD, hX, -⟩ ⟨⟨r, u, ho, hpo, hP1, hK1, hD1⟩, hF⟩
    subst hsz
    obtain ⟨w', hpm, hpo'⟩ := hp r u hpo
    obtain ⟨k1, k2⟩ := f_join (A := va_A (w ++ wi) s.heap.size) hP hD.self isC isR pm hC hR hn hdis hpm hnp (fun q h3 h4 => hF.2 q h3 h4) (f_in hC) hP1 hD1
    exact ⟨⟨r, w' ++ wi, ho, hpo', k1, hK1, k2⟩, ⟨hF.1, fun q h3 h4 => hF.2 q h3 (fun k => h4 (f_in hC q k))⟩⟩
theorem f_mi {post' : Int32 → va_W → Prop} {w' : va_W} (hw : w'.Perm w) (h : Met l y ws rm (sPc av D tys w sz nws aos adK adV q0) (va_Qi post' (zB D tys (fun x => x) w sz) (va_A w sz)) mc ms (va_A w sz)) : Met l y ws rm (sPc av D tys w' sz nws aos adK adV q0) (va_Qi post' (zB D tys (fun x => x) w' sz) (va_A w' sz)) mc ms (va_A w' sz) := by
  refine f_conseq h ?_ ?_ (f_Am hw.symm)
  · rintro a s ⟨ha, hsz, hP, hK, hD, hX, hE⟩
    exact ⟨ha, hsz, f_Pm hw hP, hK, f_Dm hw hD, hX, zE_narrow hE (f_Am hw.symm)⟩
  · rintro a s o t - ⟨⟨r, u, ho, hpo, hP1, hK1, hD1⟩, hF⟩
    exact ⟨⟨r, u, ho, hpo, hP1, hK1, hD1.weaken (fun _ _ _ => f_Am hw.symm _)⟩, ⟨hF.1, fun q h3 h4 => hF.2 q h3 (fun k => h4 (f_Am hw.symm q k))⟩⟩
theorem f_ml {post' : Int64 → va_W → Prop} {w' : va_W} (hw : w'.Perm w) (h : Met l y ws rm (sPc av D tys w sz nws aos adK adV q0) (va_Ql post' (zB D tys (fun x => x) w sz) (va_A w sz)) mc ms (va_A w sz)) : Met l y ws rm (sPc av D tys w' sz nws aos adK adV q0) (va_Ql post' (zB D tys (fun x => x) w' sz) (va_A w' sz)) mc ms (va_A w' sz) := by
  refine f_conseq h ?_ ?_ (f_Am hw.symm)
  · rintro a s ⟨ha, hsz, hP, hK, hD, hX, hE⟩
    exact ⟨ha, hsz, f_Pm hw hP, hK, f_Dm hw hD, hX, zE_narrow hE (f_Am hw.symm)⟩
  · rintro a s o t - ⟨⟨r, u, ho, hpo, hP1, hK1, hD1⟩, hF⟩
    exact ⟨⟨r, u, ho, hpo, hP1, hK1, hD1.weaken (fun _ _ _ => f_Am hw.symm _)⟩, ⟨hF.1, fun q h3 h4 => hF.2 q h3 (fun k => h4 (f_Am hw.symm q k))⟩⟩
end FP
