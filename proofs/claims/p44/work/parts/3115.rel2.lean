/-! own rows: what stands between the reader's numbers, shut from sight -/
def zCw (tk wd pl ap : Int) : Prop := ¬ tk = 1 ∨ wd ≤ 728 ∨ pl + 3 ≤ ap
theorem zCw_use {tk wd pl ap : Int} (h : zCw tk wd pl ap) (h1 : tk = 1) (h2 : 728 < wd) : pl + 3 ≤ ap := by
  unfold zCw at h
  omega
def zCh (bad : Int) (hw cd : Nat → Int32) : Prop := ¬ bad = 0 ∨ ¬ (hw 4).toInt = 0 ∨ (cd 4).toInt = 0
