-- ===== end of PART A; then your names; then what follows =====
/-! THE CLAIM OUT OF ONE WALK OF THE LAW'S BODY. Your part is whole_start (and what it stands on); all else here is the same for every law, but numbers. -/
def R_law : String := "MonthPushLaw"
def lw_P (b : Addr) (xs : List Int32) (args : Array Value) (s : State) : Prop := args = #[.ref b] ∧ s.IntsAt b xs ∧ xs.length ≤ 6 ∧ (Jvm.Cond.and given_1 narrow_1).before args s = true
def lw_Q (_ : Array Value) (s : State) (o : Outcome) (t : State) : Prop := o = .returned (some (.int 1)) ∧ Framed s o t [] 600000 7302250
def lw_Z (below : List Frame) (a : Array Value) (s : State) : State → Prop := fun t => ∃ o, t.status = .running ∧ Ended t below o ∧ lw_Q a s o t
/-- the law's own end, with 1 on the stack, nothing written that was there before, its room as the claim has it -/
theorem lw_ret {p : Program} {l : Launch} {e : Env} {s : State} {m : MethodId} {below : List Frame} {meth : Method} {c : Code} {b : Nat} (hx : p.tables.exec = Jvm.exec) (hb : c.code = code) (hr : meth.sig.returnType = ret) (hlocks : meth.locks = false) {pc : Nat} {H : Heap} {ls : Array Slot} (hdg : decode code pc = .ok (.ireturn, 1)) : W p l e room_1 s m #[Value.ref b] below meth c H [] 600000 7302250 (lw_Z below #[Value.ref b] s) (F0 m pc ls [.int 1]) := by
  intro T hT X
  obtain ⟨fs, hret, hrun, hended, hW, hframe⟩ := X.leave (v := some (.int 1)) (hlocks := hlocks) (fun h => by rw [hr] at h; cases h)
  have hmeth' : T.vm.method? m = some meth := X.method'
  refine ⟨T.setFrames fs, ?_, .returned (some (.int 1)), hrun, hended, rfl, ⟨_, rfl⟩, hW, hframe⟩
  jvm_step X.here [X.here.top, hx, hb, hdg, hmeth', hr, ret, narrow_b1]
  (try refine ⟨rfl, ?_⟩); (try refine ⟨rfl, ?_⟩)
  first | (intro acts; rw [hret _ acts rfl rfl rfl]) | rw [hret _ _ rfl rfl rfl]
  exact Steps.refl _
/-- what holds at the law's entry: the machine, the code, the tables' words (any of lw_tbl by 'hts w (by decide +kernel)'), the script of L ints xs at the cell b, what the Statement gives of the start (any of its parts by flat_of_before) -/
def lw_At (p : Program) (s : State) (m : MethodId) (meth : Method) (c : Code) (b L : Nat) (xs : Nat → Int32) : Prop :=
  p.tables.exec = Jvm.exec ∧ c.code = code ∧ meth.sig.returnType = ret ∧ c.maxLocals = 4 ∧ s.vm.findClass R_law = some m.cls ∧ (∀ w ∈ lw_tbl, w.before #[Value.ref b] s = true) ∧ va_X b L xs s s.heap ∧ b < s.heap.size ∧ meth.locks = false ∧ (Jvm.Cond.and given_1 narrow_1).before #[Value.ref b] s = true
abbrev zxw (cB cI cJ cZ cP cQ : ClassId) (ad : Nat → Nat) : va_W := [(ad 0, .inr (8, xf0 ad)), (ad 1, .inr (7, xf1 ad)), (ad 2, .inl (cB, 600, .inl (fun _ => 0))), (ad 3, .inr (3, xf3 ad)), (ad 4, .inl (cI, 6, .inl (fun _ => 0))), (ad 5, .inl (cI, 6, .inl (fun _ => 0))), (ad 6, .inl (cI, 8, .inl (fun _ => 0))), (ad 7, .inl (cI, 8, .inl (fun _ => 0))), (ad 8, .inl (cI, 8, .inl (fun _ => 0))), (ad 9, .inl (cI, 8, .inl (fun _ => 0))), (ad 10, .inl (cI, 13, .inl (fun _ => (-1)))), (ad 11, .inl (cI, 120, .inl (fun _ => 0))), (ad 12, .inl (cI, 120, .inl (fun _ => 0))), (ad 13, .inr (3, xf13 ad)), (ad 14, .inl (cI, 6, .inl (fun _ => 0))), (ad 15, .inl (cI, 6, .inl (fun _ => 0))), (ad 16, .inl (cI, 8, .inl (fun _ => 0))), (ad 17, .inl (cI, 8, .inl (fun _ => 0))), (ad 18, .inl (cI, 8, .inl (fun _ => 0))), (ad 19, .inl (cI, 8, .inl (fun _ => 0))), (ad 20, .inl (cI, 13, .inl (fun _ => (-1)))), (ad 21, .inl (cI, 120, .inl (fun _ => 0))), (ad 22, .inl (cI, 120, .inl (fun _ => 0))), (ad 23, .inr (5, xf23 ad)), (ad 24, .inl (cI, 200, .inl (fun _ => 0))), (ad 25, .inl (cI, 200, .inl (fun _ => 0))), (ad 26, .inl (cI, 200, .inl (fun _ => 0))), (ad 27, .inl (cI, 200, .inl (fun _ => 0))), (ad 28, .inl (cI, 200, .inl (fun _ => 0))), (ad 29, .inl (cI, 200, .inl (fun _ => 0))), (ad 30, .inr (5, xf30 ad)), (ad 31, .inl (cI, 200, .inl (fun _ => 0))), (ad 32, .inl (cI, 200, .inl (fun _ => 0))), (ad 33, .inl (cI, 200, .inl (fun _ => 0))), (ad 34, .inl (cI, 200, .inl (fun _ => 0))), (ad 35, .inl (cI, 200, .inl (fun _ => 0))), (ad 36, .inl (cI, 200, .inl (fun _ => 0))), (ad 37, .inr (0, xf37 ad)), (ad 38, .inr (6, xf38 ad)), (ad 39, .inr (1, xf39 ad)), (ad 40, .inl (cJ, 72, .inr (.inl (fun _ => 0)))), (ad 41, .inl (cJ, 72, .inr (.inl (fun _ => 0)))), (ad 42, .inl (cJ, 72, .inr (.inl (fun _ => 0)))), (ad 43, .inl (cP, 3, .inr (.inr (.inr (.inr (fun _ => none)))))), (ad 44, .inl (cQ, 4, .inr (.inr (.inr (.inr (va_up (va_up (va_up (va_up (fun _ => none) (Int32.toNatClampNeg 0) (some (ad 45))) (Int32.toNatClampNeg 1) (some (ad 47))) (Int32.toNatClampNeg 2) (some (ad 49))) (Int32.toNatClampNeg 3) (some (ad 51)))))))), (ad 45, .inr (4, xf45 ad)), (ad 46, .inl (cJ, 60, .inr (.inl (fun _ => 0)))), (ad 47, .inr (4, xf47 ad)), (ad 48, .inl (cJ, 60, .inr (.inl (fun _ => 0)))), (ad 49, .inr (4, xf49 ad)), (ad 50, .inl (cJ, 60, .inr (.inl (fun _ => 0)))), (ad 51, .inr (4, xf51 ad)), (ad 52, .inl (cJ, 60, .inr (.inl (fun _ => 0))))]
abbrev zmw (cB cI cJ cZ cP cQ : ClassId) (am : Nat → Nat) : va_W := [(am 0, .inr (9, mf0 am)), (am 1, .inl (cI, 4, .inl (fun _ => (-1)))), (am 2, .inl (cI, 4, .inl (fun _ => 0))), (am 3, .inl (cJ, 240, .inr (.inl (fun _ => 0)))), (am 4, .inl (cJ, 60, .inr (.inl (fun _ => 0)))), (am 5, .inl (cB, 600, .inl (fun _ => 0))), (am 6, .inl (cI, 5, .inl (fun _ => 0))), (am 7, .inl (cI, 5, .inl (fun _ => 0))), (am 8, .inl (cI, 30, .inl (fun _ => 0))), (am 9, .inl (cI, 30, .inl (fun _ => 0))), (am 10, .inl (cI, 5, .inl (fun _ => 0))), (am 11, .inl (cI, 40, .inl (fun _ => 0))), (am 12, .inl (cI, 40, .inl (fun _ => 0))), (am 13, .inl (cI, 40, .inl (fun _ => 0))), (am 14, .inl (cI, 40, .inl (fun _ => 0))), (am 15, .inl (cZ, 60, .inl (fun _ => 0))), (am 16, .inl (cI, 60, .inl (fun _ => 0))), (am 17, .inl (cZ, 5, .inl (fun _ => 0))), (am 18, .inl (cZ, 5, .inl (fun _ => 0))), (am 19, .inl (cI, 5, .inl (fun _ => 0))), (am 20, .inl (cI, 5, .inl (fun _ => 0))), (am 21, .inl (cI, 5, .inl (fun _ => 0))), (am 22, .inl (cI, 1600, .inl (fun _ => 0))), (am 23, .inl (cZ, 3, .inl (fun _ => 0))), (am 24, .inl (cJ, 320, .inr (.inl (fun _ => 0)))), (am 25, .inl (cI, 5, .inl (fun _ => 0))), (am 26, .inl (cI, 1000, .inl (fun _ => 0))), (am 27, .inl (cI, 1000, .inl (fun _ => 0))), (am 28, .inl (cI, 1000, .inl (fun _ => 0))), (am 29, .inl (cI, 1000, .inl (fun _ => 0))), (am 30, .inl (cI, 1000, .inl (fun _ => 0))), (am 31, .inl (cI, 1000, .inl (fun _ => 0))), (am 32, .inl (cZ, 200, .inl (fun _ => 0))), (am 33, .inl (cJ, 72, .inr (.inl (fun _ => 0)))), (am 34, .inl (cJ, 72, .inr (.inl (fun _ => 0)))), (am 35, .inl (cJ, 72, .inr (.inl (fun _ => 0)))), (am 36, .inl (cZ, 199, .inl (fun _ => 0)))]
theorem z_cmp0 {x : Int64} : lg_cmp x x = 0 := by
  rcases z_cmp (x := x) (y := x) with h | h | h
  · exact absurd (Int64.lt_iff_toInt_lt.mp h.1) (Int.lt_irrefl _)
  · exact h.2
  · exact absurd (Int64.lt_iff_toInt_lt.mp h.1) (Int.lt_irrefl _)
set_option maxHeartbeats 4000000 in
set_option maxRecDepth 100000 in
theorem law_tail {p : Program} {l : Launch} {e : Env} {s : State} {m : MethodId} {below : List Frame} {meth : Method} {c : Code} {b : Nat} {xs : Nat → Int32} {x1 x2 : Nat} {H : Heap} {locs : List Loc} {cells slots : Nat} {ls : Array Slot} (C0 : lw_At p s m meth c b 6 xs) (hS : va_S (fun q : Nat => s.heap.size ≤ q) s.heap H locs) (hc : cells ≤ 600000) (hs : slots ≤ 7302250) (hl : lv_has ls 4 [(3, .int 0), (2, .ref x2), (1, .ref x1), (0, .ref b)]) : W p l e room_1 s m #[Value.ref b] below meth c H locs cells slots (lw_Z below #[Value.ref b] s) (F0 m 1625 ls []) := by
  obtain ⟨hx, hb, hr, hml, hown, hts, hXs, hbl, hlocks, hgv⟩ := id C0
  have hbA : ¬ (fun q : Nat => s.heap.size ≤ q) b := Nat.not_le.mpr hbl
  refine lv_iinc (v := 6) (lv' := [(3, .int 6), (2, .ref x2), (1, .ref x1), (0, .ref b)]) hx hb dL_law_1625 hl (k := 0) rfl (by decide) (by decide) rfl (fun ls hl => ?_)
  refine lv_goto (tgt := 18) hx hb dL_law_1628 (by decide) ?_
  refine lv_iload_n hx hb dL_law_18 rfl (lv_at hl 0 rfl) ?_
  refine lv_aload_n hx hb dL_law_19 rfl (lv_at hl 3 rfl) ?_
  refine va_slen hx hb hXs hbl hbA hS dL_law_20 ?_
  refine lv_bipush (v := 6) hx hb dL_law_21 (by decide) ?_
  refine lv_isub hx hb dL_law_23 ?_
  refine z_topi (y := 0) (by decide) ?_
  refine lv_icmp_gt (tgt := 1631) hx hb dL_law_24 (by decide) (fun _ => ?_) (fun c => absurd (by decide) c)
  refine lv_iconst (v := 1) hx hb dL_law_1631 (by decide) ?_
  refine va_forget (fun q hq => hS.2.2 q hq) ?_
  refine W.widen (k := 600000) (n := 7302250) hc hs ?_
  exact lw_ret hx hb hr hlocks dL_law_1632
