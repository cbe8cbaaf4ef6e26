/-! own rows: a call over a world that nobody looks into -/
section FC
variable {p : Program} {l : Launch} {e : Env} {R : Room} {s : State} {m : MethodId} {args : Array Value} {below : List Frame} {meth : Method} {c : Code} {H H0 : Heap} {locs : List Loc} {cells slots : Nat} {Q : State → Prop} {cc : ByteArray} {pc : Nat} {ls : Array Slot} {rest : List Value} {D : va_G} {tys : List (ClassId × FieldType)} {A : Nat → Prop}
theorem f_free {wc wi : va_W} (hD : va_D A (wc ++ wi)) (hS : va_S A H0 H locs) (hA : ∀ q, H0.size ≤ q → A q) : ∀ q, va_A wc H.size q → A q := by
  intro q hq
  rcases hq with ⟨k, x, hk⟩ | h
  · exact hD.2 k (q, x) (f_l hk)
  · exact hA q (Nat.le_trans hS.1 h)
theorem f_after {wc wi u : va_W} {H1 : Heap} (hP : va_P D vwCl (wc ++ wi) H) (hD : va_D A (wc ++ wi)) (hF : ∀ q, va_A wc H.size q → A q) (hk : ∀ q : Nat, q < H.size → ¬ va_A wc H.size q → H1[q]? = H[q]?) (hP1 : va_P D vwCl u H1) (hD1 : va_D (va_A wc H.size) u) : va_P D vwCl (u ++ wi) H1 ∧ va_D A (u ++ wi) := by
  have hwi : ∀ (j : Nat) (q : Nat × va_E), wi[j]? = some q → ¬ va_A wc H.size q.1 := by
    intro j q hj hq
    rcases hq with ⟨k, x, hk'⟩ | hge
    · exact f_Dx hD k j _ q hk' hj rfl
    · have := ((f_Pr hP) j q hj).lt
      omega
  refine ⟨hP1.app ((f_Pr hP).kept (fun k q hk' => hk q.1 ((f_Pr hP) k q hk').lt (hwi k q hk'))), (hD1.weaken (fun _ _ _ h => hF _ h)).app (f_Dr hD) ?_⟩
  intro i j x q hi hj ex
  have := hD1.2 _ x hi
  rw [ex] at this
  exact hwi j q hj this
theorem f_fini {mc ms : Nat} {st0 : List Value} {post : Int32 → va_W → Prop} {wc wi : va_W} {av : Array Value} (hr : va_Run p l e R s m args below meth c H locs cells slots mc ms (F0 m pc ls st0) rest (va_Qi post (zB D tys (fun x => x) wc H.size) (va_A wc H.size) av) (va_A wc H.size)) (hP : va_P D vwCl (wc ++ wi) H) (hD : va_D A (wc ++ wi)) (hS : va_S A H0 H locs) (hA : ∀ q, H0.size ≤ q → A q)
    (kk : ∀ (r : Int32) (u : va_W) (H1 : Heap) (locs1 : List Loc), post r u → va_P D vwCl (u ++ wi) H1 → va_D A (u ++ wi) → va_S A H0 H1 locs1 → W p l e R s m args below meth c H1 locs1 (cells + mc) (slots + ms) Q (F0 m (pc + 3) ls (.int r :: rest))) : W p l e R s m args below meth c H locs cells slots Q (F0 m pc ls st0) := by
  have hF := f_free hD hS hA
  refine va_calli hr hS (fun q _ h => hF q h) hF (fun r u t H1 locs1 ht hvm hw hB hz1 hk1 hS1 => ?_)
  obtain ⟨hP1, hK1, hD1⟩ := hB
  rw [ht] at hP1
  obtain ⟨h1, h2⟩ := f_after hP hD hF hk1 hP1 hD1
  exact kk r u H1 locs1 hw h1 h2 hS1
theorem f_finl {mc ms : Nat} {st0 : List Value} {post : Int64 → va_W → Prop} {wc wi : va_W} {av : Array Value} (hr : va_Run p l e R s m args below meth c H locs cells slots mc ms (F0 m pc ls st0) rest (va_Ql post (zB D tys (fun x => x) wc H.size) (va_A wc H.size) av) (va_A wc H.size)) (hP : va_P D vwCl (wc ++ wi) H) (hD : va_D A (wc ++ wi)) (hS : va_S A H0 H locs) (hA : ∀ q, H0.size ≤ q → A q)
    (kk : ∀ (r : Int64) (u : va_W) (H1 : Heap) (locs1 : List Loc), post r u → va_P D vwCl (u ++ wi) H1 → va_D A (u ++ wi) → va_S A H0 H1 locs1 → W p l e R s m args below meth c H1 locs1 (cells + mc) (slots + ms) Q (F0 m (pc + 3) ls (.long r :: rest))) : W p l e R s m args below meth c H locs cells slots Q (F0 m pc ls st0) := by
  have hF := f_free hD hS hA
  refine va_calll hr hS (fun q _ h => hF q h) hF (fun r u t H1 locs1 ht hvm hw hB hz1 hk1 hS1 => ?_)
  obtain ⟨hP1, hK1, hD1⟩ := hB
  rw [ht] at hP1
  obtain ⟨h1, h2⟩ := f_after hP hD hF hk1 hP1 hD1
  exact kk r u H1 locs1 hw h1 h2 hS1
theorem f_pV {b : Nat} {As : List Value} {wc wi : va_W} {nws : List (String × Nat × MethodName × String)} {aos : List String} {adK adV : Nat → Nat} {q1 : Option Nat} {q : vw_C} {ci : Nat} (hE : zE adK adV q1 A s s.heap) (hS : va_S A s.heap H locs) (hA : ∀ q, s.heap.size ≤ q → A q) (hK : va_K D vwCl tys s) (hP : va_P D vwCl (wc ++ wi) H) (hD : va_D A (wc ++ wi)) (hX : zX nws aos s) (hc : vwCl[ci]? = some q) (hq : ∃ (k : Nat) (fs : List Value), wc[k]? = some (b, .inr (ci, fs))) : PreV s H q.1 b (sPc (.ref b :: As) D tys wc H.size nws aos adK adV q1) As := by
  obtain ⟨k, fs, he⟩ := hq
  exact ⟨s_blind, va_recv hK (f_Pl hP) hc he, fun U hU hW => ⟨rfl, by rw [hU], by rw [hU]; exact f_Pl hP, va_K.moved hW.alike hK, (f_Dl hD).weaken (fun _ _ _ _ => trivial), zX_warm hW hX, by rw [hU]; exact zE_warm hW (zE_narrow (zE_kept hE hS.2.1) (f_free hD hS hA))⟩⟩
end FC
