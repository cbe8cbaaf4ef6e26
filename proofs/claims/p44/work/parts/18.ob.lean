/-! own rows: what both objects have alike: 0 .. 3 the widths of the rows, 4 .. 7 their lengths, 8 .. 10 whether an image stands there -/
def obRow (ob : Nat → Int32) (a b c : Int32) : Nat → Int32 := if 0 ≤ a.toInt ∧ a.toInt ≤ 3 ∧ 0 ≤ b.toInt ∧ b.toInt ≤ 3 ∧ 0 ≤ c.toInt ∧ c.toInt ≤ 60 then va_up (va_up ob a.toNatClampNeg b) (4 + a.toNatClampNeg) c else ob
def obKeep (ob : Nat → Int32) (a : Int32) : Nat → Int32 := if 0 ≤ a.toInt ∧ a.toInt ≤ 2 then va_up ob (8 + a.toNatClampNeg) 1 else ob
def zOb (ob wf mf kf : Nat → Int32) : Prop := (∀ k : Nat, k < 4 → (wf k).toInt = (ob k).toInt ∧ (mf k).toInt = (ob (4 + k)).toInt) ∧ ∀ k : Nat, k < 3 → (kf k).toInt = (ob (8 + k)).toInt
theorem obRow_w {ob : Nat → Int32} {a b c : Int32} (j : Nat) (hj : j < 4) : (a.toInt = j ∧ 0 ≤ b.toInt ∧ b.toInt ≤ 3 ∧ 0 ≤ c.toInt ∧ c.toInt ≤ 60 ∧ (obRow ob a b c j).toInt = b.toInt ∧ (obRow ob a b c (4 + j)).toInt = c.toInt) ∨ ((¬ a.toInt = j ∨ b.toInt < 0 ∨ 3 < b.toInt ∨ c.toInt < 0 ∨ 60 < c.toInt) ∧ (obRow ob a b c j).toInt = (ob j).toInt ∧ (obRow ob a b c (4 + j)).toInt = (ob (4 + j)).toInt) := by
  by_cases h : 0 ≤ a.toInt ∧ a.toInt ≤ 3 ∧ 0 ≤ b.toInt ∧ b.toInt ≤ 3 ∧ 0 ≤ c.toInt ∧ c.toInt ≤ 60
  · have ea := z_cl h.1
    unfold obRow
    rw [if_pos h]
    by_cases e : a.toInt = j
    · have e2 : a.toNatClampNeg = j := by omega
      rw [e2]
      refine Or.inl ⟨e, h.2.2.1, h.2.2.2.1, h.2.2.2.2.1, h.2.2.2.2.2, ?_, ?_⟩
      · rw [va_up_ne _ _ (by omega), va_up_self]
      · rw [va_up_self]
    · refine Or.inr ⟨Or.inl e, ?_, ?_⟩
      · rw [va_up_ne _ _ (by omega), va_up_ne _ _ (by omega)]
      · rw [va_up_ne _ _ (by omega), va_up_ne _ _ (by omega)]
  · have e : obRow ob a b c = ob := by
      unfold obRow
      rw [if_neg h]
    rw [e]
    exact Or.inr ⟨by omega, rfl, rfl⟩
theorem obRow_k {ob : Nat → Int32} {a b c : Int32} (k : Nat) : obRow ob a b c (8 + k) = ob (8 + k) := by
  unfold obRow
  split
  · rename_i h
    have ea := z_cl h.1
    rw [va_up_ne _ _ (by omega), va_up_ne _ _ (by omega)]
  · rfl
theorem obKeep_w {ob : Nat → Int32} {a : Int32} (k : Nat) (hk : k < 8) : obKeep ob a k = ob k := by
  unfold obKeep
  split
  · rw [va_up_ne _ _ (by omega)]
  · rfl
theorem obKeep_k {ob : Nat → Int32} {a : Int32} (k : Nat) (hk : k < 3) : (a.toInt = k ∧ obKeep ob a (8 + k) = 1) ∨ (¬ a.toInt = k ∧ obKeep ob a (8 + k) = ob (8 + k)) := by
  unfold obKeep
  by_cases h : 0 ≤ a.toInt ∧ a.toInt ≤ 2
  · have ea := z_cl h.1
    rw [if_pos h]
    by_cases e : a.toInt = k
    · have e2 : a.toNatClampNeg = k := by omega
      rw [e2]
      exact Or.inl ⟨e, va_up_self _ _ _⟩
    · exact Or.inr ⟨e, va_up_ne _ _ (by omega)⟩
  · rw [if_neg h]
    exact Or.inr ⟨by omega, rfl⟩
theorem zOb_row {ob wf mf kf wf' mf' : Nat → Int32} {a b c : Int32} (h : zOb ob wf mf kf) (hg : (0 ≤ a.toInt ∧ a.toInt ≤ 3 ∧ 0 ≤ b.toInt ∧ b.toInt ≤ 3 ∧ 0 ≤ c.toInt ∧ c.toInt ≤ 60 ∧ wf' = upd wf a.toNatClampNeg b ∧ mf' = upd mf a.toNatClampNeg c) ∨ ((a.toInt < 0 ∨ 3 < a.toInt ∨ b.toInt < 0 ∨ 3 < b.toInt ∨ c.toInt < 0 ∨ 60 < c.toInt) ∧ wf' = wf ∧ mf' = mf)) : zOb (obRow ob a b c) wf' mf' kf := by
  refine ⟨fun k hk => ?_, fun k hk => by rw [obRow_k]; exact h.2 k hk⟩
  have w := obRow_w (ob := ob) (a := a) (b := b) (c := c) k hk
  have e := h.1 k hk
  rcases hg with ⟨h0, h1, h2, h3, h4, h5, rfl, rfl⟩ | ⟨h0, rfl, rfl⟩
  · have ea := z_cl h0
    rw [z_upd (f := wf) rfl k, z_upd (f := mf) rfl k]
    by_cases q : k = a.toNatClampNeg
    · rw [if_pos q, if_pos q]
      omega
    · rw [if_neg q, if_neg q]
      omega
  · omega
theorem zOb_keep {ob wf mf kf kf' : Nat → Int32} {a : Int32} (h : zOb ob wf mf kf) (hg : (0 ≤ a.toInt ∧ a.toInt ≤ 2 ∧ kf' = upd kf a.toNatClampNeg (vp_nar .boolean 1)) ∨ ((a.toInt < 0 ∨ 2 < a.toInt) ∧ kf' = kf)) : zOb (obKeep ob a) wf mf kf' := by
  refine ⟨fun k hk => by rw [obKeep_w k (by omega), obKeep_w (4 + k) (by omega)]; exact h.1 k hk, fun k hk => ?_⟩
  have e := h.2 k hk
  rcases hg with ⟨h0, h1, rfl⟩ | ⟨h0, rfl⟩
  · have ea := z_cl h0
    rw [z_upd (f := kf) rfl k]
    rcases obKeep_k (ob := ob) (a := a) k hk with ⟨q, w⟩ | ⟨q, w⟩
    · rw [w, if_pos (by omega)]
      decide
    · rw [w, if_neg (by omega)]
      exact e
  · rcases obKeep_k (ob := ob) (a := a) k hk with ⟨q, w⟩ | ⟨q, w⟩
    · omega
    · rw [w]
      exact e
def ob0 : Nat → Int32 := fun k => if k < 4 then -1 else 0
theorem zOb_i : zOb ob0 (fun _ => -1) (fun _ => 0) (fun _ => 0) := by
  refine ⟨fun k hk => ?_, fun k hk => ?_⟩
  · unfold ob0
    rw [if_pos hk, if_neg (by omega)]
    exact ⟨rfl, rfl⟩
  · unfold ob0
    rw [if_neg (by omega)]
