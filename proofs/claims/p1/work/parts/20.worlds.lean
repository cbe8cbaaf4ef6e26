theorem z_arrSet {D : va_G} {w : va_W} {H : Heap} {A : Nat → Prop} {a n : Nat} {cA : ClassId} {f g : Nat → Int32} (hP : va_P D vwCl w H) (hD : va_D A w) (k : Nat) (hk : w[k]? = some (a, .inl (cA, n, .inl f))) (h : ∀ j, j < n → f j = g j) : va_P D vwCl (w.set k (a, .inl (cA, n, .inl g))) H ∧ va_D A (w.set k (a, .inl (cA, n, .inl g))) := by
  have hone : va_P D vwCl [(a, .inl (cA, n, .inl f))] H := fun i q hi => by
    cases i with
    | zero => cases hi; exact hP k _ hk
    | succ i => simp at hi
  have h2 := z_arrI h hone
  have hkl : k < w.length := (List.getElem?_eq_some_iff.mp hk).1
  refine ⟨fun i q hi => ?_, ⟨fun i j p q hi hj he => ?_, fun i q hi => ?_⟩⟩
  · rw [List.getElem?_set] at hi
    split at hi
    · cases hi
      exact h2 0 _ rfl
    · exact hP i q hi
  · have key : ∀ (i : Nat) (p : Nat × va_E), (w.set k (a, .inl (cA, n, .inl g)))[i]? = some p → ∃ p', w[i]? = some p' ∧ p'.1 = p.1 := by
      intro i p hi
      rw [List.getElem?_set] at hi
      split at hi
      · rename_i e
        subst e
        cases hi
        exact ⟨_, hk, rfl⟩
      · exact ⟨p, hi, rfl⟩
    obtain ⟨p', hp1, hp2⟩ := key i p hi
    obtain ⟨q', hq1, hq2⟩ := key j q hj
    exact hD.1 i j p' q' hp1 hq1 (by rw [hp2, hq2, he])
  · rw [List.getElem?_set] at hi
    split at hi
    · cases hi
      exact hD.2 k (a, .inl (cA, n, .inl f)) hk
    · exact hD.2 i q hi
abbrev xf0 (ad : Nat → Nat) : List Value := [.ref (ad 1), .ref (ad 3), .ref (ad 13), .ref (ad 23), .ref (ad 30), .ref (ad 37), .ref (ad 38), .ref (ad 39), .ref (ad 43), .ref (ad 44)]
abbrev xf1 (ad : Nat → Nat) : List Value := [.ref (ad 2), .int 0, .int 0, .int (-1), .int 0, .int 0, .int 0, .int 0]
abbrev xf3 (ad : Nat → Nat) : List Value := [.int 0, .int 0, .int 0, .int 0, .int 0, .int 0, .int 0, .ref (ad 4), .ref (ad 5), .ref (ad 6), .ref (ad 7), .ref (ad 8), .ref (ad 9), .ref (ad 10), .ref (ad 11), .ref (ad 12)]
abbrev xf13 (ad : Nat → Nat) : List Value := [.int 0, .int 0, .int 0, .int 0, .int 0, .int 0, .int 0, .ref (ad 14), .ref (ad 15), .ref (ad 16), .ref (ad 17), .ref (ad 18), .ref (ad 19), .ref (ad 20), .ref (ad 21), .ref (ad 22)]
abbrev xf23 (ad : Nat → Nat) : List Value := [.int 0, .ref (ad 24), .ref (ad 25), .ref (ad 26), .ref (ad 27), .ref (ad 28), .ref (ad 29)]
abbrev xf30 (ad : Nat → Nat) : List Value := [.int 0, .ref (ad 31), .ref (ad 32), .ref (ad 33), .ref (ad 34), .ref (ad 35), .ref (ad 36)]
abbrev xf37 (ad : Nat → Nat) : List Value := [.long 0]
abbrev xf38 (ad : Nat → Nat) : List Value := [.long 0, .long 0, .long 0, .long 0, .long 0, .long 0, .long 0, .long 0, .long 0, .long 0, .long 0]
abbrev xf39 (ad : Nat → Nat) : List Value := [.ref (ad 40), .ref (ad 41), .ref (ad 42)]
abbrev xf45 (ad : Nat → Nat) : List Value := [.int (-1), .int 0, .ref (ad 46)]
abbrev xf47 (ad : Nat → Nat) : List Value := [.int (-1), .int 0, .ref (ad 48)]
abbrev xf49 (ad : Nat → Nat) : List Value := [.int (-1), .int 0, .ref (ad 50)]
abbrev xf51 (ad : Nat → Nat) : List Value := [.int (-1), .int 0, .ref (ad 52)]
abbrev mf0 (am : Nat → Nat) : List Value := [.int 0, .ref (am 1), .ref (am 2), .ref (am 3), .ref (am 4), .ref (am 5), .int 0, .int 0, .int 0, .int 0, .int 0, .long 0, .int 0, .int 0, .int 0, .int (-1), .ref (am 6), .ref (am 7), .ref (am 8), .ref (am 9), .ref (am 10), .ref (am 11), .ref (am 12), .ref (am 13), .ref (am 14), .ref (am 15), .ref (am 16), .ref (am 17), .ref (am 18), .ref (am 19), .ref (am 20), .ref (am 21), .ref (am 22), .ref (am 23), .ref (am 24), .ref (am 25), .ref (am 26), .ref (am 27), .ref (am 28), .ref (am 29), .ref (am 30), .ref (am 31), .long 0, .int 0, .long 0, .long 0, .long 0, .long 0, .long 0, .long 0, .long 0, .long 0, .ref (am 32), .int 0, .ref (am 33), .ref (am 34), .ref (am 35), .long 0, .long 0, .ref (am 36)]
