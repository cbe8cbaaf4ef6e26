/-! own rows: contracts widened to a whole object and what lies beside it -/
theorem f_Pl {D : va_G} {cl : List vw_C} {a b : va_W} {H : Heap} (h : va_P D cl (a ++ b) H) : va_P D cl a H := fun k q hk => h k q (by rw [List.getElem?_append_left (List.getElem?_eq_some_iff.mp hk).1]; exact hk)
theorem f_r {a b : va_W} {k : Nat} {q : Nat × va_E} (hk : b[k]? = some q) : (a ++ b)[a.length + k]? = some q := by
  rw [List.getElem?_append_right (Nat.le_add_right _ _), Nat.add_sub_cancel_left]
  exact hk
theorem f_l {a b : va_W} {k : Nat} {q : Nat × va_E} (hk : a[k]? = some q) : (a ++ b)[k]? = some q := by
  rw [List.getElem?_append_left (List.getElem?_eq_some_iff.mp hk).1]
  exact hk
theorem f_Pr {D : va_G} {cl : List vw_C} {a b : va_W} {H : Heap} (h : va_P D cl (a ++ b) H) : va_P D cl b H := fun k q hk => h (a.length + k) q (f_r hk)
theorem f_Dl {A : Nat → Prop} {a b : va_W} (h : va_D A (a ++ b)) : va_D A a := ⟨fun i j p q hi hj e => h.1 i j p q (f_l hi) (f_l hj) e, fun k q hk => h.2 k q (f_l hk)⟩
theorem f_Dr {A : Nat → Prop} {a b : va_W} (h : va_D A (a ++ b)) : va_D A b := ⟨fun i j p q hi hj e => by
  have := h.1 (a.length + i) (a.length + j) p q (f_r hi) (f_r hj) e
  omega, fun k q hk => h.2 _ q (f_r hk)⟩
theorem f_Dx {A : Nat → Prop} {a b : va_W} (h : va_D A (a ++ b)) (i j : Nat) (p q : Nat × va_E) (hi : a[i]? = some p) (hj : b[j]? = some q) : p.1 ≠ q.1 := fun e => by
  have h1 := h.1 i (a.length + j) p q (f_l hi) (f_r hj) e
  have h2 := (List.getElem?_eq_some_iff.mp hi).1
  omega
theorem f_src {is : List Nat} {w w0 : va_W} (h : is.map (fun i => w[i]?) = w0.map some) {k : Nat} {x : Nat × va_E} (hk : w0[k]? = some x) : ∃ i : Nat, w[i]? = some x := by
  have h1 : (w0.map some)[k]? = some (some x) := by
    rw [List.getElem?_map, hk]
    rfl
  rw [← h, List.getElem?_map] at h1
  cases hi : is[k]? with
  | none =>
    rw [hi] at h1
    cases h1
  | some i =>
    rw [hi] at h1
    exact ⟨i, Option.some.inj h1⟩
theorem f_join {D : va_G} {A : Nat → Prop} {H H1 : Heap} {w wi wc w1 w' : va_W} (hP : va_P D vwCl (w ++ wi) H) (hD : va_D A (w ++ wi)) (isC isR pm : List Nat) (hC : isC.map (fun i => w[i]?) = wc.map some) (hR : isR.map (fun i => w[i]?) = (isR.filterMap (fun i => w[i]?)).map some) (hn : va_nd isR = true) (hdis : ∀ i ∈ isR, i ∉ isC) (hpm : pm.map (fun i => (isR.filterMap (fun i => w[i]?) ++ w1)[i]?) = w'.map some) (hnp : va_nd pm = true)
    (hk : ∀ q : Nat, q < H.size → ¬ va_A wc H.size q → H1[q]? = H[q]?) (hF : ∀ q, va_A wc H.size q → A q) (hP1 : va_P D vwCl w1 H1) (hD1 : va_D (va_A wc H.size) w1) : va_P D vwCl (w' ++ wi) H1 ∧ va_D A (w' ++ wi) := by
  obtain ⟨h1, h2⟩ := z_join (w1 := fun (_ : Unit) => w1) (w' := fun (_ : Unit) => w') () (f_Pl hP) (f_Dl hD) isC isR pm hC hR hn hdis (fun _ => hpm) hnp hk hF hP1 hD1
  have hwi : ∀ (j : Nat) (q : Nat × va_E), wi[j]? = some q → ¬ va_A wc H.size q.1 := by
    intro j q hj hq
    rcases hq with ⟨k, e, hk'⟩ | hge
    · obtain ⟨i, hi⟩ := f_src hC hk'
      exact f_Dx hD i j _ q hi hj rfl
    · have := ((f_Pr hP) j q hj).lt
      omega
  refine ⟨h1.app ((f_Pr hP).kept (fun k q hk' => hk q.1 ((f_Pr hP) k q hk').lt (hwi k q hk'))), h2.app (f_Dr hD) ?_⟩
  intro i j p q hi hj e
  obtain ⟨n, hn'⟩ := f_src hpm hi
  by_cases hl : n < (isR.filterMap (fun i => w[i]?)).length
  · rw [List.getElem?_append_left hl] at hn'
    obtain ⟨x, -, hx⟩ := List.mem_filterMap.mp (List.mem_of_getElem? hn')
    exact f_Dx hD x j p q hx hj e
  · rw [List.getElem?_append_right (by omega)] at hn'
    have := hD1.2 _ p hn'
    rw [e] at this
    exact hwi j q hj this
theorem f_conseq {l : Launch} {y : MethodName} {ws : List Cond} {rm : Room} {Pc Pc' : Array Value → State → Prop} {Qc Qc' : Array Value → State → Outcome → State → Prop} {mc ms : Nat} {free free' : Addr → Prop} (h : Met l y ws rm Pc Qc mc ms free) (hP : ∀ a s, Pc' a s → Pc a s) (hQ : ∀ a s o t, Pc' a s → Qc a s o t → Qc' a s o t) (hf : ∀ q, free q → free' q) : Met l y ws rm Pc' Qc' mc ms free' := fun p e h1 h2 h3 s m args below hs ha hp hk => by
  obtain ⟨n, o, a1, a2, a3, q, L, f1, f2⟩ := h p e h1 h2 h3 s m args below hs ha (hP _ _ hp) hk
  exact ⟨n, o, a1, a2, a3, hQ _ _ _ _ hp q, L, f1, fun q hq => hf _ (f2 q hq)⟩
theorem f_in {w wi wc : va_W} {sz : Nat} {isC : List Nat} (hC : isC.map (fun i => w[i]?) = wc.map some) : ∀ q, va_A wc sz q → va_A (w ++ wi) sz q := by
  intro q hq
  rcases hq with ⟨k, e, hk⟩ | h
  · obtain ⟨i, hi⟩ := f_src hC hk
    exact Or.inl ⟨i, e, f_l hi⟩
  · exact Or.inr h
-- the order of the cells tells nothing
theorem f_Pm {D : va_G} {cl : List vw_C} {w w' : va_W} {H : Heap} (hp : w.Perm w') (h : va_P D cl w H) : va_P D cl w' H := fun k q hk => by
  obtain ⟨i, hi⟩ := List.mem_iff_getElem?.mp (hp.mem_iff.mpr (List.mem_of_getElem? hk))
  exact h i q hi
theorem f_Dc {A : Nat → Prop} {x : Nat × va_E} {l : va_W} (hx : A x.1) (h : va_D A l) (hd : ∀ q ∈ l, x.1 ≠ q.1) : va_D A (x :: l) := by
  have h1 : va_D A [x] := ⟨fun i j p q hi hj _ => by
    have := (List.getElem?_eq_some_iff.mp hi).1
    have := (List.getElem?_eq_some_iff.mp hj).1
    simp at *
    omega, fun k q hk => by
    have : q ∈ [x] := List.mem_of_getElem? hk
    rw [List.mem_singleton.mp this]
    exact hx⟩
  exact va_D.app (w1 := [x]) h1 h (fun i j p q hi hj => by
    have hp : p ∈ [x] := List.mem_of_getElem? hi
    rw [List.mem_singleton.mp hp]
    exact hd q (List.mem_of_getElem? hj))
theorem f_Dm {A : Nat → Prop} {w w' : va_W} (hp : w.Perm w') : va_D A w → va_D A w' := by
  induction hp with
  | nil => exact fun h => h
  | @cons x l1 l2 hq ih =>
    intro h
    have h : va_D A ([x] ++ l1) := h
    refine f_Dc (h.2 0 x rfl) (ih (f_Dr h)) (fun q hq' => ?_)
    obtain ⟨j, hj⟩ := List.mem_iff_getElem?.mp (hq.mem_iff.mpr hq')
    exact f_Dx h 0 j x q rfl hj
  | swap x y l =>
    intro h
    have h1 : va_D A ([y] ++ ([x] ++ l)) := h
    have h2 := f_Dr h1
    refine f_Dc (h2.2 0 x rfl) (f_Dc (h1.2 0 y rfl) (f_Dr h2) (fun q hq => ?_)) (fun q hq => ?_)
    · obtain ⟨j, hj⟩ := List.mem_iff_getElem?.mp hq
      exact f_Dx h1 0 (1 + j) y q rfl (f_r (a := [x]) hj)
    · rcases List.mem_cons.mp hq with rfl | hq
      · exact fun e => f_Dx h1 0 0 q x rfl rfl e.symm
      · obtain ⟨j, hj⟩ := List.mem_iff_getElem?.mp hq
        exact f_Dx h2 0 j x q rfl hj
  | trans _ _ h1 h2 => exact fun h => h2 (h1 h)
theorem f_Am {w w' : va_W} {sz : Nat} (hp : w.Perm w') (q : Nat) (h : va_A w sz q) : va_A w' sz q := by
  rcases h with ⟨k, e, hk⟩ | h
  · obtain ⟨i, hi⟩ := List.mem_iff_getElem?.mp (hp.mem_iff.mp (List.mem_of_getElem? hk))
    exact Or.inl ⟨i, e, hi⟩
  · exact Or.inr h
section FP
variable {l : Launch} {y : MethodName} {ws : List Cond} {rm : Room} {mc ms : Nat} {S : Type} {D : va_G} {tys : List (ClassId × FieldType)} {w wi wc : va_W} {w1 : S → va_W} {av : List Value} {sz : Nat} {nws nws' : List (String × Nat × MethodName × String)} {aos aos' : List String} {adK adV : Nat → Nat} {q0 : Option Nat}
theorem f_pubi {post : Int32 → S → Prop} {post' : Int32 → va_W → Prop} (h : Met l y ws rm (zPc av D tys wc sz nws aos) (va_Qi post (zB D tys w1 wc sz) (va_A wc sz)) mc ms (va_A wc sz)) (isC isR pm : List Nat) (hnd : va_nd isC = true) (hC : isC.map (fun i => w[i]?) = wc.map some) (hR : isR.map (fun i => w[i]?) = (isR.filterMap (fun i => w[i]?)).map some) (hn : va_nd isR = true) (hdis : ∀ i ∈ isR, i ∉ isC) (hnp : va_nd pm = true) (h1 : ∀ q ∈ nws, q ∈ nws') (h2 : ∀ q ∈ aos, q ∈ aos') (hp : ∀ r u, post r u → ∃ w' : va_W, pm.map (fun i => (isR.filterMap (fun i => w[i]?) ++ w1 u)[i]?) = w'.map some ∧ post' r (w' ++ wi)) : Met l y ws rm (sPc av D tys (w ++ wi) sz nws' aos' adK adV q0) (va_Qi post' (zB D tys (fun x => x) (w ++ wi) sz) (va_A (w ++ wi) sz)) mc ms (va_A (w ++ wi) sz) := by
  refine f_conseq h ?_ ?_ (f_in hC)
  · rintro a s ⟨ha, hsz, hP, hK, hD, hX, -⟩
    exact ⟨ha, hsz, (f_Pl hP).sub isC (z_fm hC), hK, (f_Dl hD).sub isC hnd hC, zX_sub hX h1 h2⟩
  · rintro a s o t ⟨ha, hsz, hP, hK, hD, hX, -⟩ ⟨⟨r, u, ho, hpo, hP1, hK1, hD1⟩, hF⟩
    subst hsz
    obtain ⟨w', hpm, hpo'⟩ := hp r u hpo
    obtain ⟨k1, k2⟩ := f_join (A := va_A (w ++ wi) s.heap.size) hP hD.self isC isR pm hC hR hn hdis hpm hnp (fun q h3 h4 => hF.2 q h3 h4) (f_in hC) hP1 hD1
    exact ⟨⟨r, w' ++ wi, ho, hpo', k1, hK1, k2⟩, ⟨hF.1, fun q h3 h4 => hF.2 q h3 (fun k => h4 (f_in hC q k))⟩⟩
theorem f_publ {post : Int64 → S → Prop} {post' : Int64 → va_W → Prop} (h : Met l y ws rm (zPc av D tys wc sz nws aos) (va_Ql post (zB D tys w1 wc sz) (va_A wc sz)) mc ms (va_A wc sz)) (isC isR pm : List Nat) (hnd : va_nd isC = true) (hC : isC.map (fun i => w[i]?) = wc.map some) (hR : isR.map (fun i => w[i]?) = (isR.filterMap (fun i => w[i]?)).map some) (hn : va_nd isR = true) (hdis : ∀ i ∈ isR, i ∉ isC) (hnp : va_nd pm = true) (h1 : ∀ q ∈ nws, q ∈ nws') (h2 : ∀ q ∈ aos, q ∈ aos') (hp : ∀ r u, post r u → ∃ w' : va_W, pm.map (fun i => (isR.filterMap (fun i => w[i]?) ++ w1 u)[i]?) = w'.map some ∧ post' r (w' ++ wi)) : Met l y ws rm (sPc av D tys (w ++ wi) sz nws' aos' adK adV q0) (va_Ql post' (zB D tys (fun x => x) (w ++ wi) sz) (va_A (w ++ wi) sz)) mc ms (va_A (w ++ wi) sz) := by
  refine f_conseq h ?_ ?_ (f_in hC)
  · rintro a s ⟨ha, hsz, hP, hK, hD, hX, -⟩
    exact ⟨ha, hsz, (f_Pl hP).sub isC (z_fm hC), hK, (f_Dl hD).sub isC hnd hC, zX_sub hX h1 h2⟩
  · rintro a s o t ⟨ha, hsz, hP, hK, hD, hX, -⟩ ⟨⟨r, u, ho, hpo, hP1, hK1, hD1⟩, hF⟩
    subst hsz
    obtain ⟨w', hpm, hpo'⟩ := hp r u hpo
    obtain ⟨k1, k2⟩ := f_join (A := va_A (w ++ wi) s.heap.size) hP hD.self isC isR pm hC hR hn hdis hpm hnp (fun q h3 h4 => hF.2 q h3 h4) (f_in hC) hP1 hD1
    exact ⟨⟨r, w' ++ wi, ho, hpo', k1, hK1, k2⟩, ⟨hF.1, fun q h3 h4 => hF.2 q h3 (fun k => h4 (f_in hC q k))⟩⟩
theorem f_pubs {post : Int32 → S → Prop} {post' : Int32 → va_W → Prop} (h : Met l y ws rm (sPc av D tys wc sz nws aos adK adV q0) (va_Qi post (zB D tys w1 wc sz) (va_A wc sz)) mc ms (va_A wc sz)) (isC isR pm : List Nat) (hnd : va_nd isC = true) (hC : isC.map (fun i => w[i]?) = wc.map some) (hR : isR.map (fun i => w[i]?) = (isR.filterMap (fun i => w[i]?)).map some) (hn : va_nd isR = true) (hdis : ∀ i ∈ isR, i ∉ isC) (hnp : va_nd pm = true) (h1 : ∀ q ∈ nws, q ∈ nws') (h2 : ∀ q ∈ aos, q ∈ aos') (hp : ∀ r u, post r u → ∃ w' : va_W, pm.map (fun i => (isR.filterMap (fun i => w[i]?) ++ w1 u)[i]?) = w'.map some ∧ post' r (w' ++ wi)) : Met l y ws rm (sPc av D tys (w ++ wi) sz nws' aos' adK adV q0) (va_Qi post' (zB D tys (fun x => x) (w ++ wi) sz) (va_A (w ++ wi) sz)) mc ms (va_A (w ++ wi) sz) := by
  refine f_conseq h ?_ ?_ (f_in hC)
  · rintro a s ⟨ha, hsz, hP, hK, hD, hX, hE⟩
    exact ⟨ha, hsz, (f_Pl hP).sub isC (z_fm hC), hK, (f_Dl hD).sub isC hnd hC, zX_sub hX h1 h2, zE_narrow hE (f_in hC)⟩
  · rintro a s o t ⟨ha, hsz, hP, hK, hD, hX, -⟩ ⟨⟨r, u, ho, hpo, hP1, hK1, hD1⟩, hF⟩
    subst hsz
    obtain ⟨w', hpm, hpo'⟩ := hp r u hpo
    obtain ⟨k1, k2⟩ := f_join (A := va_A (w ++ wi) s.heap.size) hP hD.self isC isR pm hC hR hn hdis hpm hnp (fun q h3 h4 => hF.2 q h3 h4) (f_in hC) hP1 hD1
    exact ⟨⟨r, w' ++ wi, ho, hpo', k1, hK1, k2⟩, ⟨hF.1, fun q h3 h4 => hF.2 q h3 (fun k => h4 (f_in hC q k))⟩⟩
theorem f_mi {post' : Int32 → va_W → Prop} {w' : va_W} (hw : w'.Perm w) (h : Met l y ws rm (sPc av D tys w sz nws aos adK adV q0) (va_Qi post' (zB D tys (fun x => x) w sz) (va_A w sz)) mc ms (va_A w sz)) : Met l y ws rm (sPc av D tys w' sz nws aos adK adV q0) (va_Qi post' (zB D tys (fun x => x) w' sz) (va_A w' sz)) mc ms (va_A w' sz) := by
  refine f_conseq h ?_ ?_ (f_Am hw.symm)
  · rintro a s ⟨ha, hsz, hP, hK, hD, hX, hE⟩
    exact ⟨ha, hsz, f_Pm hw hP, hK, f_Dm hw hD, hX, zE_narrow hE (f_Am hw.symm)⟩
  · rintro a s o t - ⟨⟨r, u, ho, hpo, hP1, hK1, hD1⟩, hF⟩
    exact ⟨⟨r, u, ho, hpo, hP1, hK1, hD1.weaken (fun _ _ _ => f_Am hw.symm _)⟩, ⟨hF.1, fun q h3 h4 => hF.2 q h3 (fun k => h4 (f_Am hw.symm q k))⟩⟩
theorem f_ml {post' : Int64 → va_W → Prop} {w' : va_W} (hw : w'.Perm w) (h : Met l y ws rm (sPc av D tys w sz nws aos adK adV q0) (va_Ql post' (zB D tys (fun x => x) w sz) (va_A w sz)) mc ms (va_A w sz)) : Met l y ws rm (sPc av D tys w' sz nws aos adK adV q0) (va_Ql post' (zB D tys (fun x => x) w' sz) (va_A w' sz)) mc ms (va_A w' sz) := by
  refine f_conseq h ?_ ?_ (f_Am hw.symm)
  · rintro a s ⟨ha, hsz, hP, hK, hD, hX, hE⟩
    exact ⟨ha, hsz, f_Pm hw hP, hK, f_Dm hw hD, hX, zE_narrow hE (f_Am hw.symm)⟩
  · rintro a s o t - ⟨⟨r, u, ho, hpo, hP1, hK1, hD1⟩, hF⟩
    exact ⟨⟨r, u, ho, hpo, hP1, hK1, hD1.weaken (fun _ _ _ => f_Am hw.symm _)⟩, ⟨hF.1, fun q h3 h4 => hF.2 q h3 (fun k => h4 (f_Am hw.symm q k))⟩⟩
end FP
