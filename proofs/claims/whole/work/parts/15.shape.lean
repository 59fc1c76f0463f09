/-! the two worlds: which cell is what -/
def ih_kX (k : Nat) : Nat := if k = 0 then 7 else if k = 1 then 11 else if k < 18 then (if k % 2 = 0 then 5 else 9) else if k = 18 then 12 else if k < 43 then (if k % 2 = 1 then 6 else 9) else if k = 43 then 1 else if k < 46 then 9 else if k = 46 then 2 else if k < 49 then 9 else if k < 51 then 10 else if k < 53 then 9 else if k = 53 then 4 else if k < 58 then 9 else if k = 58 then 3 else if k = 59 then 9 else if k = 60 then 0 else 9
def ih_lX (k : Nat) : Nat := if k = 1 then 8 else if k < 18 then 60 else if k = 18 then 12 else if k < 43 then 6 else if k < 46 then 216 else if k < 49 then 9 else if k < 51 then 25 else if k < 53 then 250 else if k = 54 then 2 else if k = 55 then 114 else if k < 58 then 475 else if k = 59 then 9 else 16
def ih_pX (k j : Nat) : Option Nat :=
  if k = 0 then (if j = 0 then some 1 else if j = 1 then some 18 else if j = 3 then some 43 else if j = 4 then some 46 else if j = 5 then some 53 else if j = 6 then some 58 else if j = 7 then some 60 else none)
  else if k = 1 then (if j < 8 then some (2 + 2 * j) else none)
  else if k < 18 then (if k % 2 = 0 ∧ j = 0 then some (k + 1) else none)
  else if k = 18 then (if j < 12 then some (19 + 2 * j) else none)
  else if k < 43 then (if k % 2 = 1 ∧ j = 0 then some (k + 1) else none)
  else if k = 43 then (if j = 0 then some 44 else if j = 1 then some 45 else none)
  else if k = 46 then (if j = 0 then some 43 else if j = 1 then some 18 else if j = 2 then some 47 else if j = 4 then some 48 else none)
  else if k = 53 then (if j = 0 then some 43 else if j = 1 then some 18 else if j = 2 then some 54 else if j = 3 then some 55 else none)
  else if k = 58 then (if j = 0 then some 43 else if j = 1 then some 59 else none)
  else if k = 60 then (if j = 0 then some 61 else none)
  else none
def ih_shX : ih_Sh := (ih_kX, ih_lX, 62)
def ih_PX (S : ih_Sg) : Prop := ∀ k j i, ih_pX k j = some i → S.2.2 k j = some i
def ih_kM (k : Nat) : Nat := if k = 0 then 8 else 9
def ih_lM (k : Nat) : Nat := if k < 3 then 8 else if k = 3 then 480 else if k = 4 then 84 else if k = 5 then 9 else if k = 6 then 6975 else if k = 7 then 69750 else if k = 8 then 9 else if k = 9 then 2 else if k < 12 then 37050 else if k = 12 then 9 else 16
def ih_pM (k j : Nat) : Option Nat := if k = 0 then (if j = 2 then some 1 else if j = 3 then some 2 else if j = 4 then some 3 else if j = 6 then some 4 else if j = 8 then some 5 else if j = 9 then some 6 else if j = 10 then some 7 else if j = 11 then some 8 else if j = 12 then some 9 else if j = 13 then some 10 else if j = 14 then some 11 else if j = 19 then some 12 else if j = 20 then some 13 else none) else none
def ih_shM : ih_Sh := (ih_kM, ih_lM, 14)
def ih_PM (S : ih_Sg) : Prop := ∀ k j i, ih_pM k j = some i → S.2.2 k j = some i
theorem ih_kX_sh {s : Nat} (h : s < 8) : ih_shX.1 (2 + 2 * s) = 5 := by
  have : ∀ s, s < 8 → ih_kX (2 + 2 * s) = 5 := by decide
  exact this s h
theorem ih_kX_it {s : Nat} (h : s < 8) : ih_shX.1 (3 + 2 * s) = 9 := by
  have : ∀ s, s < 8 → ih_kX (3 + 2 * s) = 9 := by decide
  exact this s h
theorem ih_kX_st {s : Nat} (h : s < 12) : ih_shX.1 (19 + 2 * s) = 6 := by
  have : ∀ s, s < 12 → ih_kX (19 + 2 * s) = 6 := by decide
  exact this s h
theorem ih_kX_ch {s : Nat} (h : s < 12) : ih_shX.1 (20 + 2 * s) = 9 := by
  have : ∀ s, s < 12 → ih_kX (20 + 2 * s) = 9 := by decide
  exact this s h
theorem ih_lX_it {s : Nat} (h : s < 8) : ih_shX.2.1 (3 + 2 * s) = 60 := by
  have : ∀ s, s < 8 → ih_lX (3 + 2 * s) = 60 := by decide
  exact this s h
theorem ih_lX_ch {s : Nat} (h : s < 12) : ih_shX.2.1 (20 + 2 * s) = 6 := by
  have : ∀ s, s < 12 → ih_lX (20 + 2 * s) = 6 := by decide
  exact this s h
theorem ih_pX_sh {s : Nat} (h : s < 8) : ih_pX 1 s = some (2 + 2 * s) := by
  have : ∀ s, s < 8 → ih_pX 1 s = some (2 + 2 * s) := by decide
  exact this s h
theorem ih_pX_it {s : Nat} (h : s < 8) : ih_pX (2 + 2 * s) 0 = some (3 + 2 * s) := by
  have : ∀ s, s < 8 → ih_pX (2 + 2 * s) 0 = some (3 + 2 * s) := by decide
  exact this s h
theorem ih_pX_st {s : Nat} (h : s < 12) : ih_pX 18 s = some (19 + 2 * s) := by
  have : ∀ s, s < 12 → ih_pX 18 s = some (19 + 2 * s) := by decide
  exact this s h
theorem ih_pX_ch {s : Nat} (h : s < 12) : ih_pX (19 + 2 * s) 0 = some (20 + 2 * s) := by
  have : ∀ s, s < 12 → ih_pX (19 + 2 * s) 0 = some (20 + 2 * s) := by decide
  exact this s h
