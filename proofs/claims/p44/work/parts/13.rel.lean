/-! own rows: what stands between the rows of the reference -/
theorem z_upd {f g : Nat → Int32} {i : Nat} {x : Int32} (h : g = upd f i x) (j : Nat) : g j = if j = i then x else f j := by
  subst h
  rfl
theorem z_cl {x : Int32} (h : 0 ≤ x.toInt) : (x.toNatClampNeg : Int) = x.toInt := by
  show ((x.toInt.toNat : Nat) : Int) = x.toInt
  omega
theorem z_clE {x y : Int32} (h : x.toInt = y.toInt) : x.toNatClampNeg = y.toNatClampNeg := by
  show x.toInt.toNat = y.toInt.toNat
  rw [h]
theorem z_clN {x : Int32} {n : Nat} (h : x.toInt = n) : x.toNatClampNeg = n := by
  show x.toInt.toNat = n
  omega
-- months
def zMo (n mo : Nat → Int32) : Prop := ∀ b i : Nat, b < 5 → (i : Int) < (n b).toInt → 1 ≤ (mo (200 * b + i)).toInt ∧ (mo (200 * b + i)).toInt ≤ 12
def zMs (n mo : Nat → Int32) : Prop := ∀ b i : Nat, 1 ≤ b → b < 5 → (i : Int) < (n b).toInt → 1 ≤ (mo (200 * b + i)).toInt ∧ (mo (200 * b + i)).toInt ≤ 12
def zMp (mo : Nat → Int32) (k : Int) : Prop := ∀ i : Nat, (i : Int) < k → 1 ≤ (mo i).toInt ∧ (mo i).toInt ≤ 12
theorem zMo_get {n mo : Nat → Int32} {x : Int32} (h : zMo n mo) (h0 : 0 ≤ x.toInt) (h1 : x.toInt < (n 0).toInt) : 1 ≤ (mo x.toNatClampNeg).toInt ∧ (mo x.toNatClampNeg).toInt ≤ 12 := by
  have := h 0 x.toNatClampNeg (by omega) (by rw [z_cl h0]; exact h1)
  simpa using this
theorem zMo_push {n n' mo mo' : Nat → Int32} {x v y : Int32} (h : zMo n mo) (hz : zR 0 200 n) (hm : mo' = upd mo x.toNatClampNeg v) (hn : n' = upd n 0 y) (hx : x.toInt = (n 0).toInt) (hy : y.toInt = (n 0).toInt + 1) (h1 : 1 ≤ v.toInt) (h2 : v.toInt ≤ 12) (h3 : (n 0).toInt ≤ 199) : zMo n' mo' := by
  have hz0 := hz 0
  have ex := z_cl (x := x) (by omega)
  intro b i hb hi
  rw [z_upd hm]
  split
  · exact ⟨h1, h2⟩
  · rename_i k
    rw [z_upd hn] at hi
    refine h b i hb ?_
    by_cases hb0 : b = 0
    · subst hb0
      rw [if_pos rfl] at hi
      omega
    · rw [if_neg hb0] at hi
      exact hi
theorem zMo_s {n mo : Nat → Int32} (h : zMo n mo) : zMs n mo := fun b i _ hb hi => h b i hb hi
theorem zMp_0 {mo : Nat → Int32} {k : Int} (h : k ≤ 0) : zMp mo k := fun i hi => absurd hi (by omega)
theorem zMp_push {mo mo' : Nat → Int32} {x v : Int32} {k k' : Int} (h : zMp mo k) (hm : mo' = upd mo x.toNatClampNeg v) (h0 : 0 ≤ x.toInt) (hx : x.toInt = k) (hk : k' = k + 1) (h1 : 1 ≤ v.toInt) (h2 : v.toInt ≤ 12) : zMp mo' k' := by
  have ex := z_cl h0
  intro i hi
  rw [z_upd hm]
  split
  · exact ⟨h1, h2⟩
  · exact h i (by omega)
theorem zMs_upd {n mo mo' : Nat → Int32} {x v : Int32} (h : zMs n mo) (hm : mo' = upd mo x.toNatClampNeg v) (h0 : 0 ≤ x.toInt) (h1 : x.toInt ≤ 199) : zMs n mo' := by
  have ex := z_cl h0
  intro b i hb hb5 hi
  rw [z_upd hm, if_neg (by omega)]
  exact h b i hb hb5 hi
theorem zMo_of {n n' mo : Nat → Int32} {y : Int32} {k : Int} (h : zMs n mo) (hp : zMp mo k) (hn : n' = upd n 0 y) (hy : y.toInt = k) : zMo n' mo := by
  intro b i hb hi
  rw [z_upd hn] at hi
  by_cases hb0 : b = 0
  · subst hb0
    rw [if_pos rfl] at hi
    have := hp i (by omega)
    simpa using this
  · rw [if_neg hb0] at hi
    exact h b i (by omega) hb hi
theorem zMo_cp {n mo mo' : Nat → Int32} {a b : Int32} (h : zMo n mo) (hm : mo' = upd mo b.toNatClampNeg (mo a.toNatClampNeg)) (h0 : 0 ≤ a.toInt) (h1 : a.toInt < (n 0).toInt) : zMo n mo' := by
  have ha := zMo_get h h0 h1
  intro c i hc hi
  rw [z_upd hm]
  split
  · exact ha
  · exact h c i hc hi
theorem zMo_less {n n' mo : Nat → Int32} {y : Int32} (h : zMo n mo) (hn : n' = upd n 0 y) (hy : y.toInt ≤ (n 0).toInt) : zMo n' mo := by
  intro b i hb hi
  rw [z_upd hn] at hi
  by_cases hb0 : b = 0
  · subst hb0
    rw [if_pos rfl] at hi
    exact h 0 i hb (by omega)
  · rw [if_neg hb0] at hi
    exact h b i hb hi
-- a block of SHEETS copied: all blocks but b as they were, of b the first k
def zMc (n mo : Nat → Int32) (c : Nat) (k : Int) : Prop := ∀ b i : Nat, b < 5 → (i : Int) < (if b = c then k else (n b).toInt) → 1 ≤ (mo (200 * b + i)).toInt ∧ (mo (200 * b + i)).toInt ≤ 12
theorem zMc_0 {n n' mo : Nat → Int32} {b : Int32} {y : Int32} {k : Int} (h : zMo n mo) (hn : n' = upd n b.toNatClampNeg y) (hk : k ≤ 0) : zMc n' mo b.toNatClampNeg k := by
  intro c i hc hi
  split at hi
  · omega
  · rename_i e
    rw [z_upd hn, if_neg e] at hi
    exact h c i hc hi
theorem zMc_push {n mo mo' : Nat → Int32} {a b x y : Int32} {k k' : Int} (h : zMc n mo b.toNatClampNeg k) (hm : mo' = upd mo y.toNatClampNeg (mo x.toNatClampNeg)) (ha0 : 0 ≤ a.toInt) (ha : a.toInt ≤ 4) (hb0 : 0 ≤ b.toInt) (hb : b.toInt ≤ 4) (hab : ¬ a.toInt = b.toInt) (hk0 : 0 ≤ k) (hk1 : k ≤ 199) (hk : k < (n a.toNatClampNeg).toInt) (hx : x.toInt = 200 * a.toInt + k) (hy : y.toInt = 200 * b.toInt + k) (hk' : k' = k + 1) : zMc n mo' b.toNatClampNeg k' := by
  have ea := z_cl ha0
  have eb := z_cl hb0
  have ex := z_cl (x := x) (by omega)
  have ey := z_cl (x := y) (by omega)
  have hv : 1 ≤ (mo x.toNatClampNeg).toInt ∧ (mo x.toNatClampNeg).toInt ≤ 12 := by
    have := h a.toNatClampNeg k.toNat (by omega) (by rw [if_neg (by omega)]; omega)
    rw [show 200 * a.toNatClampNeg + k.toNat = x.toNatClampNeg by omega] at this
    exact this
  intro c i hc hi
  rw [z_upd hm]
  split
  · exact hv
  · rename_i q
    refine h c i hc ?_
    split at hi
    · rename_i e
      rw [if_pos e]
      subst e
      omega
    · rename_i e
      rw [if_neg e]
      exact hi
theorem zMc_end {n mo : Nat → Int32} {c : Nat} {k : Int} (h : zMc n mo c k) (hk : (n c).toInt ≤ k) : zMo n mo := by
  intro b i hb hi
  refine h b i hb ?_
  split
  · rename_i e
    subst e
    omega
  · exact hi
-- shares
def zSh (so sh : Nat → Int32) : Prop := ∀ b j : Nat, b < 5 → (j : Int) < (so b).toInt → 1 ≤ (sh (8 * b + j)).toInt
theorem zSh_get {so sh : Nat → Int32} {x : Int32} (h : zSh so sh) (h0 : 0 ≤ x.toInt) (h1 : x.toInt < (so 0).toInt) : 1 ≤ (sh x.toNatClampNeg).toInt := by
  have := h 0 x.toNatClampNeg (by omega) (by rw [z_cl h0]; exact h1)
  simpa using this
theorem zSh_zero {so so' sh : Nat → Int32} (h : zSh so sh) (hs : so' = upd so 4 0) : zSh so' sh := by
  intro b j hb hj
  rw [z_upd hs] at hj
  split at hj
  · rw [show (0 : Int32).toInt = 0 from rfl] at hj
    omega
  · exact h b j hb hj
theorem zSh_push {so so' sh sh' : Nat → Int32} {x v y : Int32} (h : zSh so sh) (hz : zR 0 8 so) (hm : sh' = upd sh x.toNatClampNeg v) (hs : so' = upd so 4 y) (hx : x.toInt = 32 + (so 4).toInt) (hy : y.toInt = (so 4).toInt + 1) (h1 : 1 ≤ v.toInt) (h3 : (so 4).toInt ≤ 7) : zSh so' sh' := by
  have hz0 := hz 4
  have ex := z_cl (x := x) (by omega)
  intro b j hb hj
  rw [z_upd hm]
  split
  · exact h1
  · rename_i k
    rw [z_upd hs] at hj
    refine h b j hb ?_
    by_cases hb0 : b = 4
    · subst hb0
      rw [if_pos rfl] at hj
      omega
    · rw [if_neg hb0] at hj
      exact hj
def zSc (so sh : Nat → Int32) (c : Nat) (k : Int) : Prop := ∀ b j : Nat, b < 5 → (j : Int) < (so b).toInt → (b = c → (j : Int) < k) → 1 ≤ (sh (8 * b + j)).toInt
theorem zSc_0 {so so' sh : Nat → Int32} {b y : Int32} {k : Int} (h : zSh so sh) (hn : so' = upd so b.toNatClampNeg y) (hk : k ≤ 0) : zSc so' sh b.toNatClampNeg k := by
  intro c j hc hj hk'
  by_cases e : c = b.toNatClampNeg
  · have := hk' e
    omega
  · rw [z_upd hn, if_neg e] at hj
    exact h c j hc hj
theorem zSc_push {so sh sh' : Nat → Int32} {a b x y : Int32} {k k' : Int} (h : zSc so sh b.toNatClampNeg k) (hz : zR 0 8 so) (hm : sh' = upd sh y.toNatClampNeg (sh x.toNatClampNeg)) (ha0 : 0 ≤ a.toInt) (ha : a.toInt ≤ 4) (hb0 : 0 ≤ b.toInt) (hb : b.toInt ≤ 4) (hab : ¬ a.toInt = b.toInt) (hso : so b.toNatClampNeg = so a.toNatClampNeg) (hk0 : 0 ≤ k) (hk1 : k ≤ 7) (hx : x.toInt = 8 * a.toInt + k) (hy : y.toInt = 8 * b.toInt + k) (hk' : k' = k + 1) : zSc so sh' b.toNatClampNeg k' := by
  have ea := z_cl ha0
  have eb := z_cl hb0
  have ex := z_cl (x := x) (by omega)
  have ey := z_cl (x := y) (by omega)
  intro c j hc hj hkk
  have hzc := hz c
  rw [z_upd hm]
  split
  · rename_i q
    have ec : c = b.toNatClampNeg := by omega
    subst ec
    have := h a.toNatClampNeg j (by omega) (by rw [← hso]; exact hj) (fun e => absurd e (by omega))
    rw [show 8 * a.toNatClampNeg + j = x.toNatClampNeg by omega] at this
    exact this
  · rename_i q
    refine h c j hc hj (fun e => ?_)
    have := hkk e
    subst e
    omega
theorem zSc_end {so sh : Nat → Int32} {c : Nat} {k : Int} (h : zSc so sh c k) (hz : zR 0 8 so) (hk : 8 ≤ k) : zSh so sh := by
  intro b j hb hj
  have := hz b
  exact h b j hb hj (fun _ => by omega)
def zsum (f : Nat → Int32) : Nat → Int
  | 0 => 0
  | k + 1 => zsum f k + (f k).toInt
theorem zsum_s {f : Nat → Int32} {x y : Int32} (h0 : 0 ≤ x.toInt) (h : y.toInt = x.toInt + 1) : zsum f y.toNatClampNeg = zsum f x.toNatClampNeg + (f x.toNatClampNeg).toInt := by
  have e : y.toNatClampNeg = x.toNatClampNeg + 1 := by
    show y.toInt.toNat = x.toInt.toNat + 1
    omega
  rw [e]
  rfl
-- the SUM's codes: how many numbers lie there ahead of code k, and that each joint finds two
def zdep (cs : Nat → Int32) (b : Nat) : Nat → Int
  | 0 => 0
  | k + 1 => zdep cs b k + (if 0 ≤ (cs (320 * b + k)).toInt then 1 else -1)
def zCo1 (cs : Nat → Int32) (b : Nat) (n : Int) : Prop := ∀ k : Nat, (k : Int) < n → ¬ 0 ≤ (cs (320 * b + k)).toInt → 2 ≤ zdep cs b k
def zCo (cd cs : Nat → Int32) : Prop := ∀ b : Nat, b < 4 → zCo1 cs b (cd b).toInt
theorem zCo_two {cd cs : Nat → Int32} {x : Int32} (h : zCo cd cs) (h0 : 0 ≤ x.toInt) (h1 : x.toInt < (cd 0).toInt) (h2 : (cs x.toNatClampNeg).toInt < 0) : 2 ≤ zdep cs 0 x.toNatClampNeg := by
  refine h 0 (by omega) x.toNatClampNeg (by rw [z_cl h0]; exact h1) ?_
  rw [show 320 * 0 + x.toNatClampNeg = x.toNatClampNeg by omega]
  omega
theorem zdep_up {cs : Nat → Int32} {x y : Int32} (h0 : 0 ≤ x.toInt) (h : y.toInt = x.toInt + 1) (h2 : 0 ≤ (cs x.toNatClampNeg).toInt) : zdep cs 0 y.toNatClampNeg = zdep cs 0 x.toNatClampNeg + 1 := by
  have e : y.toNatClampNeg = x.toNatClampNeg + 1 := by
    show y.toInt.toNat = x.toInt.toNat + 1
    omega
  rw [e]
  show zdep cs 0 x.toNatClampNeg + _ = _
  rw [show 320 * 0 + x.toNatClampNeg = x.toNatClampNeg by omega, if_pos h2]
theorem zdep_dn {cs : Nat → Int32} {x y : Int32} (h0 : 0 ≤ x.toInt) (h : y.toInt = x.toInt + 1) (h2 : (cs x.toNatClampNeg).toInt < 0) : zdep cs 0 y.toNatClampNeg = zdep cs 0 x.toNatClampNeg - 1 := by
  have e : y.toNatClampNeg = x.toNatClampNeg + 1 := by
    show y.toInt.toNat = x.toInt.toNat + 1
    omega
  rw [e]
  show zdep cs 0 x.toNatClampNeg + _ = _
  rw [show 320 * 0 + x.toNatClampNeg = x.toNatClampNeg by omega, if_neg (by omega)]
  omega
theorem zdep_eq {cs cs' : Nat → Int32} {b : Nat} : ∀ {n : Nat}, (∀ k, k < n → cs' (320 * b + k) = cs (320 * b + k)) → zdep cs' b n = zdep cs b n
  | 0, _ => rfl
  | n + 1, h => by
    show zdep cs' b n + _ = zdep cs b n + _
    rw [zdep_eq (fun k hk => h k (by omega)), h n (by omega)]
-- products of longs
theorem z_mulL {x y : Int64} {a b : Int} (h1 : 0 ≤ x.toInt) (h2 : x.toInt ≤ a) (h3 : 0 ≤ y.toInt) (h4 : y.toInt ≤ b) (h5 : a * b < 9223372036854775808) : (x * y).toInt = x.toInt * y.toInt ∧ 0 ≤ (x * y).toInt ∧ (x * y).toInt ≤ a * b := by
  obtain ⟨k1, k2⟩ := z_mulB h1 h2 h3 h4
  have e := z_lmul (r := x * y) rfl rfl rfl (by omega) (by omega)
  rw [e]
  exact ⟨rfl, k1, k2⟩
theorem z_within {n o a b q : Int64} (h1 : 0 ≤ n.toInt) (h2 : n.toInt ≤ 200) (h3 : 0 ≤ o.toInt) (h4 : o.toInt ≤ 200) (h5 : 0 ≤ a.toInt) (h6 : a.toInt ≤ 60000) (h7 : 0 ≤ b.toInt) (h8 : b.toInt ≤ 60000) (h9 : 0 ≤ q.toInt) (h10 : q.toInt ≤ 36000000) : -2000000000000 ≤ (n * o * q - a * a * o - b * b * n).toInt ∧ (n * o * q - a * a * o - b * b * n).toInt ≤ 2000000000000 := by
  obtain ⟨-, e1, e2⟩ := z_mulL h1 h2 h3 h4 (by decide)
  obtain ⟨-, e3, e4⟩ := z_mulL e1 e2 h9 h10 (by decide)
  obtain ⟨-, e5, e6⟩ := z_mulL h5 h6 h5 h6 (by decide)
  obtain ⟨-, e7, e8⟩ := z_mulL e5 e6 h3 h4 (by decide)
  obtain ⟨-, e9, e10⟩ := z_mulL h7 h8 h7 h8 (by decide)
  obtain ⟨-, e11, e12⟩ := z_mulL e9 e10 h1 h2 (by decide)
  have k1 := z_lsub (r := n * o * q - a * a * o) rfl rfl rfl (by omega) (by omega)
  have k2 := z_lsub (r := n * o * q - a * a * o - b * b * n) rfl k1 rfl (by omega) (by omega)
  rw [k2]
  omega
theorem z_div0 {n o w : Int64} (h1 : 0 ≤ n.toInt) (h2 : n.toInt ≤ 200) (h3 : 0 ≤ o.toInt) (h4 : o.toInt ≤ 200) (h5 : 1 ≤ n.toInt + o.toInt) (h6 : -2000000000000 ≤ w.toInt) (h7 : w.toInt ≤ 2000000000000) (h8 : ¬ w.toInt = 0) : ¬ (n + o) * w = 0 := by
  intro h
  have e1 := z_ladd (r := n + o) rfl rfl rfl (by omega) (by omega)
  have b1 : -800000000000000 ≤ (n.toInt + o.toInt) * w.toInt ∧ (n.toInt + o.toInt) * w.toInt ≤ 800000000000000 := by
    rcases Int.le_total 0 w.toInt with hw | hw
    · have := z_mulB (X := n.toInt + o.toInt) (Y := w.toInt) (a := 400) (b := 2000000000000) (by omega) (by omega) hw h7
      omega
    · have := z_mulB (X := n.toInt + o.toInt) (Y := - w.toInt) (a := 400) (b := 2000000000000) (by omega) (by omega) (by omega) (by omega)
      rw [Int.mul_neg] at this
      omega
  have e2 := z_lmul (r := (n + o) * w) rfl e1 rfl (by omega) (by omega)
  rw [h, show (0 : Int64).toInt = 0 from rfl] at e2
  rcases Int.mul_eq_zero.mp e2.symm with k | k <;> omega
theorem z_look2 {a b x o1 o2 d : Int} (h : ¬ x = a ∧ ¬ x = b) : Op.lookupswitch.offset [(a, o1), (b, o2)] d x = d := by
  rw [Op.lookupswitch.offset_cons, if_neg (fun e => h.1 e.symm), Op.lookupswitch.offset_cons, if_neg (fun e => h.2 e.symm)]
  rfl
theorem z_shor {so sh : Nat → Int32} {x : Int32} (h : zSh so sh) (h0 : 0 ≤ x.toInt) : 1 ≤ (sh x.toNatClampNeg).toInt ∨ (so 0).toInt ≤ x.toInt := by
  by_cases k : x.toInt < (so 0).toInt
  · exact Or.inl (zSh_get h h0 k)
  · exact Or.inr (by omega)
theorem zsum_1 {f : Nat → Int32} : zsum f (Int32.toNatClampNeg 0 + 1) = (f 0).toInt := by
  show (0 : Int) + _ = _
  rw [Int.zero_add]
theorem zsum_t {f : Nat → Int32} {x y : Int32} (h0 : 0 ≤ x.toInt) (h : y.toInt = x.toInt + 1) : zsum f (y.toNatClampNeg + 1) = zsum f (x.toNatClampNeg + 1) + (f y.toNatClampNeg).toInt := by
  have e : y.toNatClampNeg = x.toNatClampNeg + 1 := by
    show y.toInt.toNat = x.toInt.toNat + 1
    omega
  rw [e]
  rfl
theorem z_sumlt {f : Nat → Int32} {k t : Int32} (h0 : 0 ≤ k.toInt) (h1 : k.toInt < t.toInt) (h2 : zsum f (k.toNatClampNeg + 1) < zsum f t.toNatClampNeg) : k.toInt + 1 < t.toInt := by
  by_cases e : k.toInt + 1 = t.toInt
  · have e2 : t.toNatClampNeg = k.toNatClampNeg + 1 := by
      show t.toInt.toNat = k.toInt.toNat + 1
      omega
    rw [e2] at h2
    omega
  · omega
theorem z_updO {f g : Nat → Int32} {a b x : Int32} (h : g = upd f b.toNatClampNeg x) (ha : 0 ≤ a.toInt) (hb : 0 ≤ b.toInt) (hab : ¬ a.toInt = b.toInt) : (g a.toNatClampNeg).toInt = (f a.toNatClampNeg).toInt := by
  have ea := z_cl ha
  have eb := z_cl hb
  rw [z_upd h, if_neg (by omega)]
def zMq (n n' : Nat → Int32) : Prop := ∀ b : Nat, 1 ≤ b → n' b = n b
theorem zMq_upd {n n' : Nat → Int32} {y : Int32} (h : n' = upd n 0 y) : zMq n n' := fun b hb => by
  rw [z_upd h, if_neg (by omega)]
theorem z_updE {f g : Nat → Int32} {a b : Int32} (h : g = upd f b.toNatClampNeg (f a.toNatClampNeg)) : g b.toNatClampNeg = g a.toNatClampNeg := by
  rw [z_upd h, z_upd h, if_pos rfl]
  split
  · rfl
  · rfl
theorem zCo_at {cd cs : Nat → Int32} {x : Int32} (h : zCo cd cs) (h0 : 0 ≤ x.toInt) (h1 : x.toInt ≤ 3) : zCo1 cs x.toNatClampNeg (cd x.toNatClampNeg).toInt := by
  have e := z_cl h0
  exact h x.toNatClampNeg (by omega)
def zCc (cs cs0 : Nat → Int32) (a b : Nat) (n : Int) : Prop := (∀ k : Nat, ¬ (320 * b ≤ k ∧ k < 320 * b + 320) → cs k = cs0 k) ∧ ∀ j : Nat, (j : Int) < n → cs (320 * b + j) = cs0 (320 * a + j)
theorem zCc_0 {cs : Nat → Int32} {a b : Nat} {n : Int} (h : n ≤ 0) : zCc cs cs a b n := ⟨fun _ _ => rfl, fun j hj => absurd hj (by omega)⟩
theorem zCc_push {cs cs' cs0 : Nat → Int32} {a b x y : Int32} {k k' : Int} (h : zCc cs cs0 a.toNatClampNeg b.toNatClampNeg k) (hm : cs' = upd cs y.toNatClampNeg (cs x.toNatClampNeg)) (ha0 : 0 ≤ a.toInt) (hb0 : 0 ≤ b.toInt) (hab : ¬ a.toInt = b.toInt) (hk0 : 0 ≤ k) (hk1 : k ≤ 319) (hx : x.toInt = 320 * a.toInt + k) (hy : y.toInt = 320 * b.toInt + k) (hk' : k' = k + 1) : zCc cs' cs0 a.toNatClampNeg b.toNatClampNeg k' := by
  have ea := z_cl ha0
  have eb := z_cl hb0
  have ex := z_cl (x := x) (by omega)
  have ey := z_cl (x := y) (by omega)
  refine ⟨fun q hq => ?_, fun j hj => ?_⟩
  · rw [z_upd hm, if_neg (by omega)]
    exact h.1 q hq
  · rw [z_upd hm]
    split
    · rename_i e
      rw [h.1 _ (by omega)]
      congr 1
      omega
    · exact h.2 j (by omega)
theorem zdep_eq2 {cs cs0 : Nat → Int32} {a b : Nat} : ∀ {n : Nat}, (∀ k, k < n → cs (320 * b + k) = cs0 (320 * a + k)) → zdep cs b n = zdep cs0 a n
  | 0, _ => rfl
  | n + 1, h => by
    show zdep cs b n + _ = zdep cs0 a n + _
    rw [zdep_eq2 (fun k hk => h k (by omega)), h n (by omega)]
theorem zCo1_eq {cs cs0 : Nat → Int32} {a b : Nat} {n : Int} (h : ∀ k : Nat, (k : Int) < n → cs (320 * b + k) = cs0 (320 * a + k)) (h0 : zCo1 cs0 a n) : zCo1 cs b n := by
  intro k hk hc
  rw [h k hk] at hc
  rw [zdep_eq2 (a := a) (cs0 := cs0) (fun j hj => h j (by omega))]
  exact h0 k hk hc
theorem zCc_end {cd cd' cs cs0 : Nat → Int32} {a b v : Int32} {k : Int} (hco : zCo cd cs0) (h1 : zCo1 cs0 a.toNatClampNeg (cd a.toNatClampNeg).toInt) (hz : zR 0 320 cd) (h : zCc cs cs0 a.toNatClampNeg b.toNatClampNeg k) (hcd : cd' = upd cd b.toNatClampNeg v) (hv : v.toInt = (cd a.toNatClampNeg).toInt) (hk : (cd a.toNatClampNeg).toInt ≤ k) : zCo cd' cs := by
  intro c hc
  rw [z_upd hcd]
  split
  · rename_i e
    subst e
    rw [hv]
    exact zCo1_eq (fun j hj => h.2 j (by omega)) h1
  · rename_i e
    have hzc := hz c
    refine zCo1_eq (a := c) (fun j hj => h.1 _ ?_) (hco c hc)
    omega
-- the READ block of codes: one more, one joint more
def zCr (bad : Int) (cd cs cd' cs' : Nat → Int32) (d : Int) : Prop := bad = 0 → zCo1 cs 4 (cd 4).toInt → 0 ≤ zdep cs 4 (cd 4).toNatClampNeg → zCo1 cs' 4 (cd' 4).toInt ∧ zdep cs' 4 (cd' 4).toNatClampNeg = zdep cs 4 (cd 4).toNatClampNeg + d
theorem zCr_bad {bad : Int} {cd cs cd' cs' : Nat → Int32} {d : Int} (h : ¬ bad = 0) : zCr bad cd cs cd' cs' d := fun e => absurd e h
theorem zCr_rfl {bad : Int} {cd cs : Nat → Int32} : zCr bad cd cs cd cs 0 := fun _ h _ => ⟨h, by omega⟩
theorem zCr_emit {bad : Int} {cd cs cd' cs' : Nat → Int32} {c : Int32} (hz4 : 0 ≤ (cd 4).toInt) (hs : cs' = upd cs (1280 + (cd 4).toNatClampNeg) c) (hd : (cd' 4).toInt = (cd 4).toInt + 1) : (0 ≤ c.toInt → zCr bad cd cs cd' cs' 1) ∧ (bad = 0 → zCo1 cs 4 (cd 4).toInt → 2 ≤ zdep cs 4 (cd 4).toNatClampNeg → zCo1 cs' 4 (cd' 4).toInt ∧ (c.toInt < 0 → zdep cs' 4 (cd' 4).toNatClampNeg = zdep cs 4 (cd 4).toNatClampNeg - 1)) := by
  have en := z_cl hz4
  have en' : (cd' 4).toNatClampNeg = (cd 4).toNatClampNeg + 1 := by
    show (cd' 4).toInt.toNat = (cd 4).toInt.toNat + 1
    omega
  have same : ∀ k : Nat, k < (cd 4).toNatClampNeg → cs' (320 * 4 + k) = cs (320 * 4 + k) := fun k hk => by
    rw [z_upd hs, if_neg (by omega)]
  have dsame : ∀ k : Nat, k ≤ (cd 4).toNatClampNeg → zdep cs' 4 k = zdep cs 4 k := fun k hk => zdep_eq (fun j hj => same j (by omega))
  have top : cs' (320 * 4 + (cd 4).toNatClampNeg) = c := by
    rw [z_upd hs, if_pos (by omega)]
  have dep : zdep cs' 4 (cd' 4).toNatClampNeg = zdep cs 4 (cd 4).toNatClampNeg + (if 0 ≤ c.toInt then 1 else -1) := by
    rw [en']
    show zdep cs' 4 _ + _ = _
    rw [top, dsame _ (Nat.le_refl _)]
  have good : zCo1 cs 4 (cd 4).toInt → (c.toInt < 0 → 2 ≤ zdep cs 4 (cd 4).toNatClampNeg) → zCo1 cs' 4 (cd' 4).toInt := by
    intro h1 h2 k hk hc
    by_cases e : k = (cd 4).toNatClampNeg
    · subst e
      rw [dsame _ (Nat.le_refl _)]
      rw [top] at hc
      exact h2 (by omega)
    · have hlt : k < (cd 4).toNatClampNeg := by omega
      rw [dsame k (by omega)]
      rw [same k hlt] at hc
      exact h1 k (by omega) hc
  refine ⟨fun hc _ h1 _ => ⟨good h1 (fun k => by omega), ?_⟩, fun _ h1 h2 => ⟨good h1 (fun _ => h2), fun hc => ?_⟩⟩
  · rw [dep, if_pos hc]
  · rw [dep, if_neg (by omega)]
    omega
theorem zCr_tr {b1 b2 : Int} {cd cs cd1 cs1 cd2 cs2 : Nat → Int32} {d e : Int} (h1 : zCr b1 cd cs cd1 cs1 d) (h2 : zCr b2 cd1 cs1 cd2 cs2 e) (hb : b2 = 0 → b1 = 0) (hd : 0 ≤ d) : zCr b2 cd cs cd2 cs2 (d + e) := by
  intro hb2 hc h0
  obtain ⟨k1, k2⟩ := h1 (hb hb2) hc h0
  obtain ⟨k3, k4⟩ := h2 hb2 k1 (by omega)
  exact ⟨k3, by omega⟩
-- one joint: a part behind what stands, then the joint
theorem zCr_joint {b1 b2 : Int} {cd cs cd1 cs1 cd2 cs2 : Nat → Int32} {c : Int32} {d : Int} (h1 : zCr b1 cd cs cd1 cs1 d) (hz : 0 ≤ (cd1 4).toInt) (hs : cs2 = upd cs1 (1280 + (cd1 4).toNatClampNeg) c) (hd : (cd2 4).toInt = (cd1 4).toInt + 1) (hc : c.toInt < 0) (hb : b2 = 0 → b1 = 0) (h2 : 2 ≤ d) : zCr b2 cd cs cd2 cs2 (d - 1) := by
  intro hb2 hc0 h0
  obtain ⟨k1, k2⟩ := h1 (hb hb2) hc0 h0
  obtain ⟨k3, k4⟩ := (zCr_emit (bad := b2) hz hs hd).2 hb2 k1 (by omega)
  have := k4 hc
  exact ⟨k3, by omega⟩
theorem zCo_emit {cd cs cd' cs' : Nat → Int32} {c y : Int32} (h : zCo cd cs) (hz : zR 0 320 cd) (hs : cs' = upd cs (1280 + (cd 4).toNatClampNeg) c) (hd : cd' = upd cd 4 y) : zCo cd' cs' := by
  intro b hb
  have hzb := hz b
  rw [z_upd hd, if_neg (by omega)]
  refine zCo1_eq (a := b) (fun j hj => ?_) (h b hb)
  rw [z_upd hs, if_neg (by omega)]
theorem zCr_term {b1 b2 : Int} {cd0 cs0 cd cs cd1 cs1 cd2 cs2 : Nat → Int32} {c : Int32} (h1 : zCr b1 cd0 cs0 cd cs 1) (h2 : zCr b2 cd cs cd1 cs1 1) (hz : 0 ≤ (cd1 4).toInt) (hs : cs2 = upd cs1 (1280 + (cd1 4).toNatClampNeg) c) (hd : (cd2 4).toInt = (cd1 4).toInt + 1) (hc : c.toInt < 0) (hb : b2 = 0 → b1 = 0) : zCr b2 cd0 cs0 cd2 cs2 1 :=
  zCr_joint (d := 2) (zCr_tr (d := 1) (e := 1) h1 h2 hb (by decide)) hz hs hd hc (fun h => h) (by decide)
def zCp (bad : Int) (cd cs : Nat → Int32) : Prop := bad = 0 → zCo1 cs 4 (cd 4).toInt
theorem zCp_0 {bad : Int} {cd cs : Nat → Int32} (h : (cd 4).toInt ≤ 0) : zCp bad cd cs := fun _ k hk => absurd hk (by omega)
theorem zCp_of {bad : Int} {cd cs cd' cs' : Nat → Int32} (h : zCr bad cd cs cd' cs' 1) (h0 : (cd 4).toInt = 0) : zCp bad cd' cs' := by
  intro hb
  have e : (cd 4).toNatClampNeg = 0 := by
    show (cd 4).toInt.toNat = 0
    omega
  exact (h hb (fun k hk => absurd hk (by omega)) (by rw [e]; exact Int.le_refl 0)).1
theorem zCo_zero {cd cd' cs : Nat → Int32} {y : Int32} (h : zCo cd cs) (hd : cd' = upd cd 4 y) : zCo cd' cs := by
  intro b hb
  rw [z_upd hd, if_neg (by omega)]
  exact h b hb
theorem z_clS {r x : Int32} {n : Nat} (h0 : 0 ≤ x.toInt) (h : r.toInt = n + x.toInt) : r.toNatClampNeg = n + x.toNatClampNeg := by
  show r.toInt.toNat = n + x.toInt.toNat
  omega
theorem z_updZ {f g : Nat → Int32} {i : Nat} {x : Int32} {X : Int} (h : g = upd f i (vp_nar .boolean x)) (hx : (vp_nar .boolean x).toInt = X) : (g i).toInt = X := z_updT h hx
