/-! own rows for contracts over every state: answers with a state, names, ranges -/
section YW
variable {p : Program} {l : Launch} {e : Env} {R : Room} {s : State} {m : MethodId} {args : Array Value} {below : List Frame} {meth : Method} {c : Code} {H H0 : Heap} {locs : List Loc} {cells slots : Nat} {Q : State → Prop} {cc : ByteArray} {pc : Nat} {ls : Array Slot} {rest : List Value} {D : va_G} {tys : List (ClassId × FieldType)} {w : va_W} {A : Nat → Prop} {a : Nat}
theorem y_iret {S : Type} {post : Int32 → S → Prop} {v : Int32} {w2 : S → va_W} {w9 : va_W} {sz : Nat} (u : S) (hx : p.tables.exec = Jvm.exec) (hb : c.code = cc) (hr : meth.sig.returnType = some .int) (hlocks : meth.locks = false) (hK : va_K D vwCl tys s) (hP : va_P D vwCl w9 H) (hD : va_D A w9) (hS : va_S A s.heap H locs) (hAe : A = va_A w sz) (hQ : Q = MQ below (va_Qi post (zB D tys w2 w sz) (va_A w sz)) args s cells slots (va_A w sz)) (hw9 : w2 u = w9) (hp : post v u) (hdg : decode cc pc = .ok (.ireturn, 1)) : W p l e R s m args below meth c H locs cells slots Q (F0 m pc ls [.int v]) := by
  subst hw9 hAe hQ
  exact W.iret hx hb hr (fun t ht hW => ⟨⟨v, u, rfl, hp, by rw [ht]; exact hP, va_K.moved hW.alike hK, hD⟩, hS.F ht⟩) hS.2.2 hdg hlocks
theorem y_zret {S : Type} {post : Int32 → S → Prop} {v : Int32} {w2 : S → va_W} {w9 : va_W} {sz : Nat} (u : S) (hx : p.tables.exec = Jvm.exec) (hb : c.code = cc) (hr : meth.sig.returnType = some .boolean) (hlocks : meth.locks = false) (hK : va_K D vwCl tys s) (hP : va_P D vwCl w9 H) (hD : va_D A w9) (hS : va_S A s.heap H locs) (hAe : A = va_A w sz) (hQ : Q = MQ below (va_Qi post (zB D tys w2 w sz) (va_A w sz)) args s cells slots (va_A w sz)) (hw9 : w2 u = w9) (hp : post v u) (hnv : narrow .boolean (.int v) = .int v) (hdg : decode cc pc = .ok (.ireturn, 1)) : W p l e R s m args below meth c H locs cells slots Q (F0 m pc ls [.int v]) := by
  subst hw9 hAe hQ
  exact W.zret hx hb hr hnv (fun t ht hW => ⟨⟨v, u, rfl, hp, by rw [ht]; exact hP, va_K.moved hW.alike hK, hD⟩, hS.F ht⟩) hS.2.2 hdg hlocks
theorem y_lret {S : Type} {post : Int64 → S → Prop} {v : Int64} {w2 : S → va_W} {w9 : va_W} {sz : Nat} (u : S) (hx : p.tables.exec = Jvm.exec) (hb : c.code = cc) (hr : meth.sig.returnType = some .long) (hlocks : meth.locks = false) (hK : va_K D vwCl tys s) (hP : va_P D vwCl w9 H) (hD : va_D A w9) (hS : va_S A s.heap H locs) (hAe : A = va_A w sz) (hQ : Q = MQ below (va_Ql post (zB D tys w2 w sz) (va_A w sz)) args s cells slots (va_A w sz)) (hw9 : w2 u = w9) (hp : post v u) (hdg : decode cc pc = .ok (.lreturn, 1)) : W p l e R s m args below meth c H locs cells slots Q (F0 m pc ls [.long v]) := by
  subst hw9 hAe hQ
  exact W.lret hx hb hr (fun t ht hW => ⟨⟨v, u, rfl, hp, by rw [ht]; exact hP, va_K.moved hW.alike hK, hD⟩, hS.F ht⟩) hS.2.2 hdg hlocks
theorem y_vret {S : Type} {post : S → Prop} {w2 : S → va_W} {w9 : va_W} {sz : Nat} (u : S) (hx : p.tables.exec = Jvm.exec) (hb : c.code = cc) (hr : meth.sig.returnType = none) (hlocks : meth.locks = false) (hK : va_K D vwCl tys s) (hP : va_P D vwCl w9 H) (hD : va_D A w9) (hS : va_S A s.heap H locs) (hAe : A = va_A w sz) (hQ : Q = MQ below (va_Qv post (zB D tys w2 w sz) (va_A w sz)) args s cells slots (va_A w sz)) (hw9 : w2 u = w9) (hp : post u) (hdg : decode cc pc = .ok (.return_, 1)) : W p l e R s m args below meth c H locs cells slots Q (F0 m pc ls []) := by
  subst hw9 hAe hQ
  exact W.vret hx hb hr (fun t ht hW => ⟨⟨u, rfl, hp, by rw [ht]; exact hP, va_K.moved hW.alike hK, hD⟩, hS.F ht⟩) hS.2.2 hdg hlocks
theorem y_aret {S : Type} {post : S → Prop} {rt : FieldType} {v : Nat} {w2 : S → va_W} {w9 : va_W} {sz : Nat} {ra : Nat} (u : S) (hx : p.tables.exec = Jvm.exec) (hb : c.code = cc) (hr : meth.sig.returnType = some rt) (hrt : (∃ n, rt = .object n) ∨ ∃ t, rt = .array t) (hlocks : meth.locks = false) (hK : va_K D vwCl tys s) (hP : va_P D vwCl w9 H) (hD : va_D A w9) (hS : va_S A s.heap H locs) (hAe : A = va_A w sz) (hQ : Q = MQ below (va_Qr post (fun u a t => a = ra ∧ zB D tys w2 w sz u t) (va_A w sz)) args s cells slots (va_A w sz)) (hw9 : w2 u = w9) (hra : v = ra) (hp : post u) (hdg : decode cc pc = .ok (.areturn, 1)) : W p l e R s m args below meth c H locs cells slots Q (F0 m pc ls [.ref v]) := by
  subst hw9 hAe hra hQ
  exact W.aret hx hb hr hrt (Or.inr ⟨v, rfl⟩) (fun t ht hW => ⟨⟨u, v, rfl, hp, rfl, by rw [ht]; exact hP, va_K.moved hW.alike hK, hD⟩, hS.F ht⟩) hS.2.2 hdg hlocks
theorem y_fini {S : Type} {mc ms : Nat} {st0 : List Value} {post : Int32 → S → Prop} {wc : va_W} {w1 w' : S → va_W} {av : Array Value} (hr : va_Run p l e R s m args below meth c H locs cells slots mc ms (F0 m pc ls st0) rest (va_Qi post (zB D tys w1 wc H.size) (va_A wc H.size) av) (va_A wc H.size)) (hP : va_P D vwCl w H) (hD : va_D A w) (hS : va_S A H0 H locs) (hA : ∀ q, H0.size ≤ q → A q) (isC isR pm : List Nat) (hC : isC.map (fun i => w[i]?) = wc.map some) (hR : isR.map (fun i => w[i]?) = (isR.filterMap (fun i => w[i]?)).map some) (hn : va_nd isR = true) (hdis : ∀ i ∈ isR, i ∉ isC) (hpm : ∀ u, pm.map (fun i => (isR.filterMap (fun i => w[i]?) ++ w1 u)[i]?) = (w' u).map some) (hnp : va_nd pm = true)
    (kk : ∀ (r : Int32) (u : S) (H1 : Heap) (locs1 : List Loc), post r u → va_P D vwCl (w' u) H1 → va_D A (w' u) → va_S A H0 H1 locs1 → W p l e R s m args below meth c H1 locs1 (cells + mc) (slots + ms) Q (F0 m (pc + 3) ls (.int r :: rest))) : W p l e R s m args below meth c H locs cells slots Q (F0 m pc ls st0) := by
  have hF := va_free (wc := wc) hD hS hA isC hC
  refine va_calli hr hS (fun q _ h => hF q h) hF (fun r u t H1 locs1 ht hvm hw hB hz1 hk1 hS1 => ?_)
  obtain ⟨hP1, hK1, hD1⟩ := hB
  rw [ht] at hP1
  obtain ⟨h1, h2⟩ := z_join u hP hD isC isR pm hC hR hn hdis hpm hnp hk1 hF hP1 hD1
  exact kk r u H1 locs1 hw h1 h2 hS1
theorem y_finl {S : Type} {mc ms : Nat} {st0 : List Value} {post : Int64 → S → Prop} {wc : va_W} {w1 w' : S → va_W} {av : Array Value} (hr : va_Run p l e R s m args below meth c H locs cells slots mc ms (F0 m pc ls st0) rest (va_Ql post (zB D tys w1 wc H.size) (va_A wc H.size) av) (va_A wc H.size)) (hP : va_P D vwCl w H) (hD : va_D A w) (hS : va_S A H0 H locs) (hA : ∀ q, H0.size ≤ q → A q) (isC isR pm : List Nat) (hC : isC.map (fun i => w[i]?) = wc.map some) (hR : isR.map (fun i => w[i]?) = (isR.filterMap (fun i => w[i]?)).map some) (hn : va_nd isR = true) (hdis : ∀ i ∈ isR, i ∉ isC) (hpm : ∀ u, pm.map (fun i => (isR.filterMap (fun i => w[i]?) ++ w1 u)[i]?) = (w' u).map some) (hnp : va_nd pm = true)
    (kk : ∀ (r : Int64) (u : S) (H1 : Heap) (locs1 : List Loc), post r u → va_P D vwCl (w' u) H1 → va_D A (w' u) → va_S A H0 H1 locs1 → W p l e R s m args below meth c H1 locs1 (cells + mc) (slots + ms) Q (F0 m (pc + 3) ls (.long r :: rest))) : W p l e R s m args below meth c H locs cells slots Q (F0 m pc ls st0) := by
  have hF := va_free (wc := wc) hD hS hA isC hC
  refine va_calll hr hS (fun q _ h => hF q h) hF (fun r u t H1 locs1 ht hvm hw hB hz1 hk1 hS1 => ?_)
  obtain ⟨hP1, hK1, hD1⟩ := hB
  rw [ht] at hP1
  obtain ⟨h1, h2⟩ := z_join u hP hD isC isR pm hC hR hn hdis hpm hnp hk1 hF hP1 hD1
  exact kk r u H1 locs1 hw h1 h2 hS1
theorem y_finv {S : Type} {mc ms : Nat} {st0 : List Value} {post : S → Prop} {wc : va_W} {w1 w' : S → va_W} {av : Array Value} (hr : va_Run p l e R s m args below meth c H locs cells slots mc ms (F0 m pc ls st0) rest (va_Qv post (zB D tys w1 wc H.size) (va_A wc H.size) av) (va_A wc H.size)) (hP : va_P D vwCl w H) (hD : va_D A w) (hS : va_S A H0 H locs) (hA : ∀ q, H0.size ≤ q → A q) (isC isR pm : List Nat) (hC : isC.map (fun i => w[i]?) = wc.map some) (hR : isR.map (fun i => w[i]?) = (isR.filterMap (fun i => w[i]?)).map some) (hn : va_nd isR = true) (hdis : ∀ i ∈ isR, i ∉ isC) (hpm : ∀ u, pm.map (fun i => (isR.filterMap (fun i => w[i]?) ++ w1 u)[i]?) = (w' u).map some) (hnp : va_nd pm = true)
    (kk : ∀ (u : S) (H1 : Heap) (locs1 : List Loc), post u → va_P D vwCl (w' u) H1 → va_D A (w' u) → va_S A H0 H1 locs1 → W p l e R s m args below meth c H1 locs1 (cells + mc) (slots + ms) Q (F0 m (pc + 3) ls rest)) : W p l e R s m args below meth c H locs cells slots Q (F0 m pc ls st0) := by
  have hF := va_free (wc := wc) hD hS hA isC hC
  refine va_callv hr hS (fun q _ h => hF q h) hF (fun u t H1 locs1 ht hvm hw hB hz1 hk1 hS1 => ?_)
  obtain ⟨hP1, hK1, hD1⟩ := hB
  rw [ht] at hP1
  obtain ⟨h1, h2⟩ := z_join u hP hD isC isR pm hC hR hn hdis hpm hnp hk1 hF hP1 hD1
  exact kk u H1 locs1 hw h1 h2 hS1
theorem y_finr {S : Type} {mc ms : Nat} {st0 : List Value} {post : S → Prop} {wc : va_W} {w1 w' : S → va_W} {av : Array Value} {ra0 : Nat} (hr : va_Run p l e R s m args below meth c H locs cells slots mc ms (F0 m pc ls st0) rest (va_Qr post (fun u a t => a = ra0 ∧ zB D tys w1 wc H.size u t) (va_A wc H.size) av) (va_A wc H.size)) (hP : va_P D vwCl w H) (hD : va_D A w) (hS : va_S A H0 H locs) (hA : ∀ q, H0.size ≤ q → A q) (isC isR pm : List Nat) (hC : isC.map (fun i => w[i]?) = wc.map some) (hR : isR.map (fun i => w[i]?) = (isR.filterMap (fun i => w[i]?)).map some) (hn : va_nd isR = true) (hdis : ∀ i ∈ isR, i ∉ isC) (hpm : ∀ u, pm.map (fun i => (isR.filterMap (fun i => w[i]?) ++ w1 u)[i]?) = (w' u).map some) (hnp : va_nd pm = true)
    (kk : ∀ (u : S) (H1 : Heap) (locs1 : List Loc), post u → va_P D vwCl (w' u) H1 → va_D A (w' u) → va_S A H0 H1 locs1 → W p l e R s m args below meth c H1 locs1 (cells + mc) (slots + ms) Q (F0 m (pc + 3) ls (.ref ra0 :: rest))) : W p l e R s m args below meth c H locs cells slots Q (F0 m pc ls st0) := by
  have hF := va_free (wc := wc) hD hS hA isC hC
  refine va_callr hr hS (fun q _ h => hF q h) hF (fun u ra t H1 locs1 ht hvm hw hB hz1 hk1 hS1 => ?_)
  obtain ⟨rfl, hP1, hK1, hD1⟩ := hB
  rw [ht] at hP1
  obtain ⟨h1, h2⟩ := z_join u hP hD isC isR pm hC hR hn hdis hpm hnp hk1 hF hP1 hD1
  exact kk u H1 locs1 hw h1 h2 hS1
theorem y_iast (hexec : p.tables.exec = Jvm.exec) (hb : c.code = cc) (hK : va_K D vwCl tys s) (hP : va_P D vwCl w H) (hD : va_D A w) (hS : va_S A H0 H locs) (q0 t0 : Nat) {cA : ClassId} {n : Nat} {f : Nat → Int32} (ha : w[q0]? = some (a, .inl (cA, n, .inl f))) (ht : tys[t0]? = some (cA, .int)) {i : Int32} {x : Int32} (hin : vp_in i n) (hdg : decode cc pc = .ok (.iastore, 1))
    (kk : ∀ (H1 : Heap) (locs1 : List Loc) (g : Nat → Int32), g = upd f i.toNatClampNeg x → va_P D vwCl (w.set q0 (a, .inl (cA, n, .inl g))) H1 → va_D A (w.set q0 (a, .inl (cA, n, .inl g))) → va_S A H0 H1 locs1 → W p l e R s m args below meth c H1 locs1 cells slots Q (F0 m (pc + 1) ls rest)) : W p l e R s m args below meth c H locs cells slots Q (F0 m pc ls (.int x :: .int i :: .ref a :: rest)) :=
  va_iast hexec hb hK hP hD hS q0 t0 ha ht hin hdg (fun H1 locs1 h1 h2 h3 => kk H1 locs1 _ rfl h1 h2 h3)
theorem y_last (hexec : p.tables.exec = Jvm.exec) (hb : c.code = cc) (hK : va_K D vwCl tys s) (hP : va_P D vwCl w H) (hD : va_D A w) (hS : va_S A H0 H locs) (q0 t0 : Nat) {cA : ClassId} {n : Nat} {f : Nat → Int64} (ha : w[q0]? = some (a, .inl (cA, n, .inr (.inl f)))) (ht : tys[t0]? = some (cA, .long)) {i : Int32} {x : Int64} (hin : vp_in i n) (hdg : decode cc pc = .ok (.lastore, 1))
    (kk : ∀ (H1 : Heap) (locs1 : List Loc) (g : Nat → Int64), g = vp_updL f i.toNatClampNeg x → va_P D vwCl (w.set q0 (a, .inl (cA, n, .inr (.inl g)))) H1 → va_D A (w.set q0 (a, .inl (cA, n, .inr (.inl g)))) → va_S A H0 H1 locs1 → W p l e R s m args below meth c H1 locs1 cells slots Q (F0 m (pc + 1) ls rest)) : W p l e R s m args below meth c H locs cells slots Q (F0 m pc ls (.long x :: .int i :: .ref a :: rest)) :=
  va_last hexec hb hK hP hD hS q0 t0 ha ht hin hdg (fun H1 locs1 h1 h2 h3 => kk H1 locs1 _ rfl h1 h2 h3)
theorem y_bast (hexec : p.tables.exec = Jvm.exec) (hb : c.code = cc) (hK : va_K D vwCl tys s) (hP : va_P D vwCl w H) (hD : va_D A w) (hS : va_S A H0 H locs) (q0 t0 : Nat) {cA : ClassId} {n : Nat} {f : Nat → Int32} (ha : w[q0]? = some (a, .inl (cA, n, .inl f))) (ht : tys[t0]? = some (cA, .byte)) {i : Int32} {x : Int32} (hin : vp_in i n) (hdg : decode cc pc = .ok (.bastore, 1))
    (kk : ∀ (H1 : Heap) (locs1 : List Loc) (g : Nat → Int32), g = upd f i.toNatClampNeg (vp_nar .byte x) → va_P D vwCl (w.set q0 (a, .inl (cA, n, .inl g))) H1 → va_D A (w.set q0 (a, .inl (cA, n, .inl g))) → va_S A H0 H1 locs1 → W p l e R s m args below meth c H1 locs1 cells slots Q (F0 m (pc + 1) ls rest)) : W p l e R s m args below meth c H locs cells slots Q (F0 m pc ls (.int x :: .int i :: .ref a :: rest)) :=
  va_bast hexec hb hK hP hD hS q0 t0 ha ht hin hdg (fun H1 locs1 h1 h2 h3 => kk H1 locs1 _ rfl h1 h2 h3)
theorem y_zast (hexec : p.tables.exec = Jvm.exec) (hb : c.code = cc) (hK : va_K D vwCl tys s) (hP : va_P D vwCl w H) (hD : va_D A w) (hS : va_S A H0 H locs) (q0 t0 : Nat) {cA : ClassId} {n : Nat} {f : Nat → Int32} (ha : w[q0]? = some (a, .inl (cA, n, .inl f))) (ht : tys[t0]? = some (cA, .boolean)) {i : Int32} {x : Int32} (hin : vp_in i n) (hdg : decode cc pc = .ok (.bastore, 1))
    (kk : ∀ (H1 : Heap) (locs1 : List Loc) (g : Nat → Int32), g = upd f i.toNatClampNeg (vp_nar .boolean x) → va_P D vwCl (w.set q0 (a, .inl (cA, n, .inl g))) H1 → va_D A (w.set q0 (a, .inl (cA, n, .inl g))) → va_S A H0 H1 locs1 → W p l e R s m args below meth c H1 locs1 cells slots Q (F0 m (pc + 1) ls rest)) : W p l e R s m args below meth c H locs cells slots Q (F0 m pc ls (.int x :: .int i :: .ref a :: rest)) :=
  va_zast hexec hb hK hP hD hS q0 t0 ha ht hin hdg (fun H1 locs1 h1 h2 h3 => kk H1 locs1 _ rfl h1 h2 h3)
theorem y_copyi (hexec : p.tables.exec = Jvm.exec) (hb : c.code = cc) (hml : c.maxLocals = ls.size) {own : String} {index : Nat} (hown : s.vm.findClass own = some m.cls) (hlink : (Cond.methodLink own index arraycopyName).before args s = true) (hnat : (Cond.native arraycopyName).before args s = true) (hstat : (Cond.static arraycopyName).before args s = true) (hini : (Cond.initialized "java/lang/System").before args s = true)
    (hK : va_K D vwCl tys s) (hP : va_P D vwCl w H) (hD : va_D A w) (hS : va_S A H0 H locs) (q0 q1 t0 t1 : Nat) {a0 : Nat} {c0 c1 : ClassId} {n0 n1 : Nat} {f g : Nat → Int32} {ty : FieldType} (ha0 : w[q0]? = some (a0, .inl (c0, n0, .inl f))) (ha1 : w[q1]? = some (a, .inl (c1, n1, .inl g))) (ht0 : tys[t0]? = some (c0, ty)) (ht1 : tys[t1]? = some (c1, ty)) (hprim : refKind ty = false)
    {sp dp n : Int32} (h1 : ¬ sp < 0) (h2 : ¬ dp < 0) (h3 : ¬ n < 0) (h4 : sp.toNatClampNeg + n.toNatClampNeg ≤ n0) (h5 : dp.toNatClampNeg + n.toNatClampNeg ≤ n1) (hfit : ∀ i, i < n.toNatClampNeg → fits ty (.int (f (sp.toNatClampNeg + i))) = true)
    (hframes : 1 ≤ R.frames) (hlocals : (rest.map fun v => v.category).sum + (nativeFrameWords "java/lang/System" "arraycopy" 5 + 11) ≤ R.locals) (hdg : decode cc pc = .ok (.invokestatic index, 3))
    (kk : ∀ (H1 : Heap) (locs1 : List Loc) (g2 : Nat → Int32), g2 = va_cpy f g sp.toNatClampNeg dp.toNatClampNeg n.toNatClampNeg → va_P D vwCl (w.set q1 (a, .inl (c1, n1, .inl g2))) H1 → va_D A (w.set q1 (a, .inl (c1, n1, .inl g2))) → va_S A H0 H1 locs1 → W p l e R s m args below meth c H1 locs1 cells slots Q (F0 m (pc + 3) ls rest)) : W p l e R s m args below meth c H locs cells slots Q (F0 m pc ls (.int n :: .int dp :: .ref a :: .int sp :: .ref a0 :: rest)) :=
  va_copyi hexec hb hml hown hlink hnat hstat hini hK hP hD hS q0 q1 t0 t1 ha0 ha1 ht0 ht1 hprim h1 h2 h3 h4 h5 hfit hframes hlocals hdg (fun H1 locs1 k1 k2 k3 => kk H1 locs1 _ rfl k1 k2 k3)
theorem y_copyl (hexec : p.tables.exec = Jvm.exec) (hb : c.code = cc) (hml : c.maxLocals = ls.size) {own : String} {index : Nat} (hown : s.vm.findClass own = some m.cls) (hlink : (Cond.methodLink own index arraycopyName).before args s = true) (hnat : (Cond.native arraycopyName).before args s = true) (hstat : (Cond.static arraycopyName).before args s = true) (hini : (Cond.initialized "java/lang/System").before args s = true)
    (hK : va_K D vwCl tys s) (hP : va_P D vwCl w H) (hD : va_D A w) (hS : va_S A H0 H locs) (q0 q1 t0 t1 : Nat) {a0 : Nat} {c0 c1 : ClassId} {n0 n1 : Nat} {f g : Nat → Int64} {ty : FieldType} (ha0 : w[q0]? = some (a0, .inl (c0, n0, .inr (.inl f)))) (ha1 : w[q1]? = some (a, .inl (c1, n1, .inr (.inl g)))) (ht0 : tys[t0]? = some (c0, ty)) (ht1 : tys[t1]? = some (c1, ty)) (hprim : refKind ty = false)
    {sp dp n : Int32} (h1 : ¬ sp < 0) (h2 : ¬ dp < 0) (h3 : ¬ n < 0) (h4 : sp.toNatClampNeg + n.toNatClampNeg ≤ n0) (h5 : dp.toNatClampNeg + n.toNatClampNeg ≤ n1) (hfit : ∀ i, i < n.toNatClampNeg → fits ty (.long (f (sp.toNatClampNeg + i))) = true)
    (hframes : 1 ≤ R.frames) (hlocals : (rest.map fun v => v.category).sum + (nativeFrameWords "java/lang/System" "arraycopy" 5 + 11) ≤ R.locals) (hdg : decode cc pc = .ok (.invokestatic index, 3))
    (kk : ∀ (H1 : Heap) (locs1 : List Loc) (g2 : Nat → Int64), g2 = va_cpy f g sp.toNatClampNeg dp.toNatClampNeg n.toNatClampNeg → va_P D vwCl (w.set q1 (a, .inl (c1, n1, .inr (.inl g2)))) H1 → va_D A (w.set q1 (a, .inl (c1, n1, .inr (.inl g2)))) → va_S A H0 H1 locs1 → W p l e R s m args below meth c H1 locs1 cells slots Q (F0 m (pc + 3) ls rest)) : W p l e R s m args below meth c H locs cells slots Q (F0 m pc ls (.int n :: .int dp :: .ref a :: .int sp :: .ref a0 :: rest)) :=
  va_copyl hexec hb hml hown hlink hnat hstat hini hK hP hD hS q0 q1 t0 t1 ha0 ha1 ht0 ht1 hprim h1 h2 h3 h4 h5 hfit hframes hlocals hdg (fun H1 locs1 k1 k2 k3 => kk H1 locs1 _ rfl k1 k2 k3)
end YW
def zR (lo hi : Int) (f : Nat → Int32) : Prop := ∀ k : Nat, lo ≤ (f k).toInt ∧ (f k).toInt ≤ hi
theorem zR_upd {lo hi : Int} {f g : Nat → Int32} {i : Nat} {x : Int32} {X : Int} (h : g = upd f i x) (hf : zR lo hi f) (hx : x.toInt = X) (h1 : lo ≤ X) (h2 : X ≤ hi) : zR lo hi g := by
  subst h hx
  intro k
  unfold upd
  split
  · exact ⟨h1, h2⟩
  · exact hf k
theorem zR_const {lo hi : Int} {g : Nat → Int32} {v : Int32} (h : g = fun _ => v) (h1 : lo ≤ v.toInt) (h2 : v.toInt ≤ hi) : zR lo hi g := by
  subst h
  exact fun _ => ⟨h1, h2⟩
theorem zR_cpy {lo hi : Int} {f g g2 : Nat → Int32} {a b n : Nat} (h : g2 = va_cpy f g a b n) (hf : zR lo hi f) (hg : zR lo hi g) : zR lo hi g2 := by
  subst h
  intro k
  unfold va_cpy
  split
  · exact hf _
  · exact hg _
theorem z_updT {f g : Nat → Int32} {i : Nat} {x : Int32} {X : Int} (h : g = upd f i x) (hx : x.toInt = X) : (g i).toInt = X := by
  subst h hx
  unfold upd
  rw [if_pos rfl]
theorem z_i2lT {x : Int32} {r : Int64} {X : Int} (h : r = x.toInt64) (hx : x.toInt = X) : r.toInt = X := by
  subst h hx
  exact Int32.toInt_toInt64 x
theorem z_l2i {x : Int64} {r : Int32} {X : Int} (h : r = x.toInt32) (hx : x.toInt = X) (h1 : -2147483648 ≤ X) (h2 : X < 2147483648) : r.toInt = X := by
  subst h hx
  rw [Int64.toInt_toInt32]
  exact Int.bmod_eq_of_le (by omega) (by omega)
theorem z_iadd {x y r : Int32} {X Y : Int} (h : r = x + y) (hx : x.toInt = X) (hy : y.toInt = Y) (h1 : -2147483648 ≤ X + Y) (h2 : X + Y < 2147483648) : r.toInt = X + Y := by
  subst h hx hy
  rw [Int32.toInt_add]
  exact Int.bmod_eq_of_le (by omega) (by omega)
theorem z_isub {x y r : Int32} {X Y : Int} (h : r = x - y) (hx : x.toInt = X) (hy : y.toInt = Y) (h1 : -2147483648 ≤ X - Y) (h2 : X - Y < 2147483648) : r.toInt = X - Y := by
  subst h hx hy
  rw [Int32.toInt_sub]
  exact Int.bmod_eq_of_le (by omega) (by omega)
theorem z_imul {x y r : Int32} {X Y : Int} (h : r = x * y) (hx : x.toInt = X) (hy : y.toInt = Y) (h1 : -2147483648 ≤ X * Y) (h2 : X * Y < 2147483648) : r.toInt = X * Y := by
  subst h hx hy
  rw [Int32.toInt_mul]
  exact Int.bmod_eq_of_le (by omega) (by omega)
theorem z_ladd {x y r : Int64} {X Y : Int} (h : r = x + y) (hx : x.toInt = X) (hy : y.toInt = Y) (h1 : -9223372036854775808 ≤ X + Y) (h2 : X + Y < 9223372036854775808) : r.toInt = X + Y := by
  subst h hx hy
  rw [Int64.toInt_add]
  exact Int.bmod_eq_of_le (by omega) (by omega)
theorem z_lsub {x y r : Int64} {X Y : Int} (h : r = x - y) (hx : x.toInt = X) (hy : y.toInt = Y) (h1 : -9223372036854775808 ≤ X - Y) (h2 : X - Y < 9223372036854775808) : r.toInt = X - Y := by
  subst h hx hy
  rw [Int64.toInt_sub]
  exact Int.bmod_eq_of_le (by omega) (by omega)
theorem z_lmul {x y r : Int64} {X Y : Int} (h : r = x * y) (hx : x.toInt = X) (hy : y.toInt = Y) (h1 : -9223372036854775808 ≤ X * Y) (h2 : X * Y < 9223372036854775808) : r.toInt = X * Y := by
  subst h hx hy
  rw [Int64.toInt_mul]
  exact Int.bmod_eq_of_le (by omega) (by omega)
theorem z_mulB {X Y a b : Int} (h1 : 0 ≤ X) (h2 : X ≤ a) (h3 : 0 ≤ Y) (h4 : Y ≤ b) : 0 ≤ X * Y ∧ X * Y ≤ a * b :=
  ⟨Int.mul_nonneg h1 h3, Int.mul_le_mul h2 h4 h3 (by omega)⟩
theorem z_lmulB {a b c : Int} {x y r : Int64} {X Y : Int} (h : r = x * y) (hx : x.toInt = X) (hy : y.toInt = Y) (h1 : 0 ≤ X) (h2 : X ≤ a) (h3 : 0 ≤ Y) (h4 : Y ≤ b) (h5 : a * b = c) (h6 : c < 9223372036854775808) : 0 ≤ r.toInt ∧ r.toInt ≤ c := by
  obtain ⟨k1, k2⟩ := z_mulB h1 h2 h3 h4
  rw [z_lmul h hx hy (by omega) (by omega)]
  omega
theorem z_imulB {a b c : Int} {x y r : Int32} {X Y : Int} (h : r = x * y) (hx : x.toInt = X) (hy : y.toInt = Y) (h1 : 0 ≤ X) (h2 : X ≤ a) (h3 : 0 ≤ Y) (h4 : Y ≤ b) (h5 : a * b = c) (h6 : c < 2147483648) : 0 ≤ r.toInt ∧ r.toInt ≤ c := by
  obtain ⟨k1, k2⟩ := z_mulB h1 h2 h3 h4
  rw [z_imul h hx hy (by omega) (by omega)]
  omega
theorem z_lremB {x y r : Int64} {X Y : Int} (h : r = x - x / y * y) (hx : x.toInt = X) (hy : y.toInt = Y) (h1 : 0 ≤ X) (h2 : 1 ≤ Y) : 0 ≤ r.toInt ∧ r.toInt < Y ∧ r.toInt ≤ X := by
  subst h hx hy
  have hb := Int64.toInt_lt x
  have hY := Int64.toInt_lt y
  have q0 : 0 ≤ x.toInt / y.toInt := Int.ediv_nonneg h1 (by omega)
  have q1 : x.toInt / y.toInt ≤ x.toInt := Int.ediv_le_self _ h1
  have e1 : (x / y).toInt = x.toInt / y.toInt := by
    rw [Int64.toInt_div, Int.tdiv_eq_ediv_of_nonneg h1]
    exact Int.bmod_eq_of_le (by omega) (by omega)
  have m0 := Int.emod_nonneg x.toInt (show y.toInt ≠ 0 by omega)
  have m1 := Int.emod_lt_of_pos x.toInt (show 0 < y.toInt by omega)
  have me : y.toInt * (x.toInt / y.toInt) + x.toInt % y.toInt = x.toInt := Int.mul_ediv_add_emod x.toInt y.toInt
  have e2 : (x / y * y).toInt = x.toInt / y.toInt * y.toInt := by
    refine z_lmul rfl e1 rfl ?_ ?_
    · have : 0 ≤ x.toInt / y.toInt * y.toInt := Int.mul_nonneg q0 (by omega)
      omega
    · rw [Int.mul_comm]
      omega
  have e3 : (x - x / y * y).toInt = x.toInt - x.toInt / y.toInt * y.toInt := by
    refine z_lsub rfl rfl e2 ?_ ?_
    · rw [Int.mul_comm]
      omega
    · rw [Int.mul_comm]
      omega
  have p0 : 0 ≤ y.toInt * (x.toInt / y.toInt) := Int.mul_nonneg (by omega) q0
  rw [e3, Int.mul_comm]
  omega
theorem z_ldivB {x y r : Int64} {X Y : Int} (h : r = x / y) (hx : x.toInt = X) (hy : y.toInt = Y) (h1 : 0 ≤ X) (h2 : 1 ≤ Y) : r.toInt = X / Y := by
  subst h hx hy
  have hb := Int64.toInt_lt x
  have q0 : 0 ≤ x.toInt / y.toInt := Int.ediv_nonneg h1 (by omega)
  have q1 : x.toInt / y.toInt ≤ x.toInt := Int.ediv_le_self _ h1
  rw [Int64.toInt_div, Int.tdiv_eq_ediv_of_nonneg h1]
  exact Int.bmod_eq_of_le (by omega) (by omega)
theorem z_mask31 {x r : Int64} (h : r = x &&& 2147483647) : 0 ≤ r.toInt ∧ r.toInt ≤ 2147483647 := by
  subst h
  have e : (x &&& 2147483647).toBitVec = x.toBitVec &&& 2147483647#64 := rfl
  have h1 : (x &&& 2147483647).toInt = (x.toBitVec &&& 2147483647#64).toInt := rfl
  have h2 : (x.toBitVec &&& 2147483647#64).toNat ≤ 2147483647 := by
    rw [BitVec.toNat_and]
    exact Nat.and_le_right
  rw [h1, BitVec.toInt_eq_toNat_of_lt (by omega)]
  omega
theorem z_nl0 {y : Int64} {Y : Int} (hy : y.toInt = Y) (h : ¬ Y = 0) : ¬ y = 0 := fun k => h (by rw [← hy, k]; rfl)
theorem z_ni0 {y : Int32} {Y : Int} (hy : y.toInt = Y) (h : ¬ Y = 0) : ¬ y = 0 := fun k => h (by rw [← hy, k]; rfl)
theorem z_nn {x : Int32} {X : Int} (hx : x.toInt = X) (h : 0 ≤ X) : ¬ x < 0 := fun k => by
  have := z_lt hx (show (0 : Int32).toInt = 0 from rfl) k
  omega
theorem z_fit2 {x y : Int32} {X Y : Int} {n : Nat} (hx : x.toInt = X) (hy : y.toInt = Y) (h1 : 0 ≤ X) (h2 : 0 ≤ Y) (h3 : X + Y ≤ n) : x.toNatClampNeg + y.toNatClampNeg ≤ n := by
  subst hx hy
  show x.toInt.toNat + y.toInt.toNat ≤ n
  omega
theorem z_mmini {x y r : Int32} {X Y : Int} (h : r = if y < x then y else x) (hx : x.toInt = X) (hy : y.toInt = Y) : r.toInt ≤ X ∧ r.toInt ≤ Y ∧ (r.toInt = X ∨ r.toInt = Y) := by
  subst hx hy
  split at h <;> rename_i k <;> subst h
  · have := z_lt rfl rfl k
    omega
  · have := z_nlt rfl rfl k
    omega
theorem z_mmaxi {x y r : Int32} {X Y : Int} (h : r = if x < y then y else x) (hx : x.toInt = X) (hy : y.toInt = Y) : X ≤ r.toInt ∧ Y ≤ r.toInt ∧ (r.toInt = X ∨ r.toInt = Y) := by
  subst hx hy
  split at h <;> rename_i k <;> subst h
  · have := z_lt rfl rfl k
    omega
  · have := z_nlt rfl rfl k
    omega
theorem z_mminl {x y r : Int64} {X Y : Int} (h : r = if y < x then y else x) (hx : x.toInt = X) (hy : y.toInt = Y) : r.toInt ≤ X ∧ r.toInt ≤ Y ∧ (r.toInt = X ∨ r.toInt = Y) := by
  subst hx hy
  split at h <;> rename_i k <;> rw [h]
  · have := Int64.lt_iff_toInt_lt.mp k
    omega
  · have : ¬ y.toInt < x.toInt := fun q => k (Int64.lt_iff_toInt_lt.mpr q)
    omega
theorem z_mmaxl {x y r : Int64} {X Y : Int} (h : r = if y < x then x else y) (hx : x.toInt = X) (hy : y.toInt = Y) : X ≤ r.toInt ∧ Y ≤ r.toInt ∧ (r.toInt = X ∨ r.toInt = Y) := by
  subst hx hy
  split at h <;> rename_i k <;> rw [h]
  · have := Int64.lt_iff_toInt_lt.mp k
    omega
  · have : ¬ y.toInt < x.toInt := fun q => k (Int64.lt_iff_toInt_lt.mpr q)
    omega
theorem z_zcases {x : Int32} {X : Int} (hx : x.toInt = X) (h0 : 0 ≤ X) (h1 : X ≤ 1) : x = 0 ∨ x = 1 := by
  subst hx
  exact z_cases2 h0 h1
theorem z_narZ {x : Int32} {X : Int} (hx : x.toInt = X) (h0 : 0 ≤ X) (h1 : X ≤ 1) : narrow .boolean (.int x) = .int x := by
  rcases z_zcases hx h0 h1 with h | h <;> subst h <;> decide
theorem z_fitZ {x : Int32} {X : Int} (hx : x.toInt = X) (h0 : 0 ≤ X) (h1 : X ≤ 1) : fits .boolean (.int x) = true := by
  rcases z_zcases hx h0 h1 with h | h <;> subst h <;> decide
def zQ4 (a b c d : Nat) : Nat → Option Nat := fun k => match k with
  | 0 => some a
  | 1 => some b
  | 2 => some c
  | _ => some d
theorem z_rngI {x : Int32} {X : Int} (hx : x.toInt = X) : -2147483648 ≤ X ∧ X < 2147483648 := by
  subst hx
  exact ⟨Int32.le_toInt x, Int32.toInt_lt x⟩
