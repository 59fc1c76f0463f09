theorem df_X5 : ∀ j, j < 4 → defaultValue (tyX5 j) = vp_V (ih_fs (fun k => k) 5 (fun _ => nI 0) (fun _ => none)) j := fun j hj => by
  rcases (show j = 0 ∨ j = 1 ∨ j = 2 ∨ j = 3 by omega) with rfl | rfl | rfl | rfl <;> rfl
theorem df_X6 : ∀ j, j < 2 → defaultValue (tyX6 j) = vp_V (ih_fs (fun k => k) 6 (fun _ => nI 0) (fun _ => none)) j := fun j hj => by
  rcases (show j = 0 ∨ j = 1 by omega) with rfl | rfl <;> rfl
theorem df_X1 : ∀ j, j < 2 → defaultValue (tyX1 j) = vp_V (ih_fs (fun k => k) 1 (fun _ => nI 0) (fun _ => none)) j := fun j hj => by
  rcases (show j = 0 ∨ j = 1 by omega) with rfl | rfl <;> rfl
theorem df_X0 : ∀ j, j < 2 → defaultValue (tyX0 j) = vp_V (ih_fs (fun k => k) 0 (fun _ => nI 0) (fun _ => none)) j := fun j hj => by
  rcases (show j = 0 ∨ j = 1 by omega) with rfl | rfl <;> rfl
theorem df_X2 : ∀ j, j < 9 → defaultValue (tyX2 j) = vp_V (ih_fs (fun k => k) 2 (fun _ => nI 0) (fun _ => none)) j := fun j hj => by
  rcases (show j = 0 ∨ j = 1 ∨ j = 2 ∨ j = 3 ∨ j = 4 ∨ j = 5 ∨ j = 6 ∨ j = 7 ∨ j = 8 by omega) with rfl | rfl | rfl | rfl | rfl | rfl | rfl | rfl | rfl <;> rfl
theorem df_X4 : ∀ j, j < 8 → defaultValue (tyX4 j) = vp_V (ih_fs (fun k => k) 4 (fun _ => nI 0) (fun _ => none)) j := fun j hj => by
  rcases (show j = 0 ∨ j = 1 ∨ j = 2 ∨ j = 3 ∨ j = 4 ∨ j = 5 ∨ j = 6 ∨ j = 7 by omega) with rfl | rfl | rfl | rfl | rfl | rfl | rfl | rfl <;> rfl
theorem df_X3 : ∀ j, j < 6 → defaultValue (tyX3 j) = vp_V (ih_fs (fun k => k) 3 (fun _ => nI 0) (fun _ => none)) j := fun j hj => by
  rcases (show j = 0 ∨ j = 1 ∨ j = 2 ∨ j = 3 ∨ j = 4 ∨ j = 5 by omega) with rfl | rfl | rfl | rfl | rfl | rfl <;> rfl
theorem df_X7 : ∀ j, j < 9 → defaultValue (tyX7 j) = vp_V (ih_fs (fun k => k) 7 (fun _ => nI 0) (fun _ => none)) j := fun j hj => by
  rcases (show j = 0 ∨ j = 1 ∨ j = 2 ∨ j = 3 ∨ j = 4 ∨ j = 5 ∨ j = 6 ∨ j = 7 ∨ j = 8 by omega) with rfl | rfl | rfl | rfl | rfl | rfl | rfl | rfl | rfl <;> rfl
theorem df_X8 : ∀ j, j < 22 → defaultValue (tyX8 j) = vp_V (ih_fs (fun k => k) 8 (fun _ => nI 0) (fun _ => none)) j := fun j hj => by
  rcases (show j = 0 ∨ j = 1 ∨ j = 2 ∨ j = 3 ∨ j = 4 ∨ j = 5 ∨ j = 6 ∨ j = 7 ∨ j = 8 ∨ j = 9 ∨ j = 10 ∨ j = 11 ∨ j = 12 ∨ j = 13 ∨ j = 14 ∨ j = 15 ∨ j = 16 ∨ j = 17 ∨ j = 18 ∨ j = 19 ∨ j = 20 ∨ j = 21 by omega) with rfl | rfl | rfl | rfl | rfl | rfl | rfl | rfl | rfl | rfl | rfl | rfl | rfl | rfl | rfl | rfl | rfl | rfl | rfl | rfl | rfl | rfl <;> rfl
/-- the world as the sheets, the strikers are made -/
def ih_Sa : Nat → ih_Sg
  | 0 => ih_sR ih_S0 0 0 (some 1)
  | s + 1 => ih_sR (ih_sI (ih_sR (ih_Sa s) (2 + 2 * s) 0 (some (3 + 2 * s))) (2 + 2 * s) 1 (nI 1)) 1 s (some (2 + 2 * s))
def ih_Sb : Nat → ih_Sg
  | 0 => ih_sR (ih_Sa 8) 0 1 (some 18)
  | k + 1 => ih_sR (ih_sR (ih_Sb k) (19 + 2 * k) 0 (some (20 + 2 * k))) 18 k (some (19 + 2 * k))
def ih_Sc : ih_Sg := ih_sI (ih_Sb 12) 0 2 (nI 0)
theorem ih_Sa_0 : ∀ s, s ≤ 8 → (ih_Sa s).2.2 0 0 = some 1 := by decide +kernel
theorem ih_Sb_0 : ∀ k, k ≤ 12 → (ih_Sb k).2.2 0 1 = some 18 := by decide +kernel
def ih_TM : ih_Sg := (ih_sR (ih_sR (ih_sR (ih_sR (ih_sR (ih_sI (ih_sI (ih_sR (ih_sR (ih_sR (ih_sR (ih_sR (ih_sR (ih_sR (ih_sR (ih_sI (ih_sI (ih_sI (ih_sI (ih_sI (ih_sI (ih_sI (ih_sI ih_S0 1 0 (-1)) 1 1 (-1)) 1 2 (-1)) 1 3 (-1)) 1 4 (-1)) 1 5 (-1)) 1 6 (-1)) 1 7 (-1)) 0 2 (some 1)) 0 3 (some 2)) 0 4 (some 3)) 0 6 (some 4)) 0 8 (some 5)) 0 9 (some 6)) 0 10 (some 7)) 0 11 (some 8)) 9 0 (-1000000)) 9 1 (-1000000)) 0 12 (some 9)) 0 13 (some 10)) 0 14 (some 11)) 0 19 (some 12)) 0 20 (some 13))
/-- the state at first -/
def ih_T0 : ih_TT := ih_TM.1
/-- the class's world at first, but for the tables that loops fill -/
def ih_G0 : ih_Sg := ih_sI (ih_sR (ih_sR (ih_sR (ih_sR (ih_sR (ih_sR (ih_sI (ih_sR (ih_sR (ih_sR (ih_sR (ih_sR (ih_sR (ih_sI (ih_sI (ih_sR (ih_sR (ih_sR (ih_sR (ih_sR (ih_sR (ih_sR (ih_sR (ih_sR (ih_sR (ih_sR (ih_sR ih_Sc 43 0 (some 44)) 43 1 (some 45)) 0 3 (some 43)) 46 2 (some 47)) 46 4 (some 48)) 46 5 (some 49)) 46 6 (some 50)) 46 7 (some 51)) 46 8 (some 52)) 46 0 (some 43)) 46 1 (some 18)) 0 4 (some 46)) 54 0 (-1000000)) 54 1 (-1000000)) 53 2 (some 54)) 53 3 (some 55)) 53 5 (some 56)) 53 6 (some 57)) 53 0 (some 43)) 53 1 (some 18)) 53 4 (nI 0)) 0 5 (some 53)) 58 1 (some 59)) 58 0 (some 43)) 0 6 (some 58)) 60 0 (some 61)) 0 7 (some 60)) 0 8 (nI 0)
theorem ih_u2_cg {α : Type} {f g : Nat → Nat → α} {a b k : Nat} {v : α} (h : f k = g k) : ih_u2 f a b v k = ih_u2 g a b v k := by
  funext j
  unfold ih_u2
  split
  · rfl
  · rw [h]
theorem ih_pX_lt {k j i : Nat} (h : ih_pX k j = some i) : k < 62 ∧ j < 12 := by
  by_cases hk : k < 62
  · refine ⟨hk, ?_⟩
    by_cases hj : j < 12
    · exact hj
    · exfalso
      have hz : ∀ k, k < 62 → ih_pX k j = none := by
        intro k _
        unfold ih_pX
        simp [show ¬ j = 5 by omega, show ¬ j = 6 by omega, show ¬ j = 7 by omega, show ¬ j < 8 by omega, show ¬ j < 12 by omega, show ¬ j = 0 by omega, show ¬ j = 1 by omega, show ¬ j = 2 by omega, show ¬ j = 3 by omega, show ¬ j = 4 by omega]
      rw [hz k hk] at h
      cases h
  · exfalso
    unfold ih_pX at h
    rw [if_neg (by omega), if_neg (by omega), if_neg (by omega), if_neg (by omega), if_neg (by omega), if_neg (by omega), if_neg (by omega), if_neg (by omega), if_neg (by omega), if_neg (by omega)] at h
    cases h
set_option maxRecDepth 100000 in
theorem ih_G0_p : ∀ k, k < 62 → ∀ j, j < 12 → (ih_pX k j = none ∨ ih_G0.2.2 k j = ih_pX k j) := by decide +kernel
set_option maxRecDepth 100000 in
theorem ih_G0_s : ∀ s, s < 8 → ih_G0.1 (2 + 2 * s) 1 = nI 1 ∧ ih_G0.1 (2 + 2 * s) 3 = nI 0 ∧ ∀ j, j < 60 → ih_G0.1 (3 + 2 * s) j = nI 0 := by decide +kernel
set_option maxRecDepth 100000 in
theorem ih_G0_k : ∀ k, k < 12 → (∀ a, a < 6 → ih_G0.1 (20 + 2 * k) a = nI 0) ∧ ih_G0.1 (19 + 2 * k) 1 = nI 0 := by decide +kernel
set_option maxRecDepth 100000 in
theorem ih_G0_o : ih_G0.1 46 3 = nI 0 ∧ (∀ j, j < 9 → ih_G0.1 47 j = nI 0) ∧ (∀ t, t < 2 → ih_G0.1 54 t = -1000000) ∧ ih_G0.1 60 1 = nI 0 ∧ (∀ i, i < 16 → ih_G0.1 61 i = nI 0) ∧ ih_G0.1 53 4 = nI 0 ∧ ih_G0.1 0 8 = nI 0 ∧ ih_G0.1 0 2 = nI 0 := by decide +kernel
set_option maxRecDepth 100000 in
theorem ih_T0_1 : ∀ s, s < 8 → ih_T0 1 s = -1 := by decide +kernel
set_option maxRecDepth 100000 in
theorem ih_T0_9 : ∀ s, s < 2 → ih_T0 9 s = -1000000 := by decide +kernel
theorem ih_T0_z {k j : Nat} (h1 : k ≠ 1) (h9 : k ≠ 9) : ih_T0 k j = nI 0 := by
  unfold ih_T0 ih_TM
  show ih_u2 (ih_u2 (ih_u2 (ih_u2 (ih_u2 (ih_u2 (ih_u2 (ih_u2 (ih_u2 (ih_u2 ih_S0.1 1 0 (-1)) 1 1 (-1)) 1 2 (-1)) 1 3 (-1)) 1 4 (-1)) 1 5 (-1)) 1 6 (-1)) 1 7 (-1)) 9 0 (-1000000)) 9 1 (-1000000) k j = nI 0
  rw [ih_u2_k h9, ih_u2_k h9, ih_u2_k h1, ih_u2_k h1, ih_u2_k h1, ih_u2_k h1, ih_u2_k h1, ih_u2_k h1, ih_u2_k h1, ih_u2_k h1]
  rfl
theorem ih_RX_0 {V1 V4 : ih_Sg} (hBT : ih_BT (ih_sR (ih_sR ih_Sc 43 0 (some 44)) 43 1 (some 45)) V1 24 0) (hT4 : ih_T4 (ih_sR (ih_sR (ih_sR (ih_sR (ih_sR (ih_sR (ih_sI (ih_sI (ih_sR (ih_sR (ih_sR (ih_sR (ih_sR (ih_sR (ih_sR (ih_sR (ih_sR (ih_sR V1 0 3 (some 43)) 46 2 (some 47)) 46 4 (some 48)) 46 5 (some 49)) 46 6 (some 50)) 46 7 (some 51)) 46 8 (some 52)) 46 0 (some 43)) 46 1 (some 18)) 0 4 (some 46)) 54 0 (-1000000)) 54 1 (-1000000)) 53 2 (some 54)) 53 3 (some 55)) 53 5 (some 56)) 53 6 (some 57)) 53 0 (some 43)) 53 1 (some 18)) V4 19) : ih_RX (ih_sI (ih_sR (ih_sR (ih_sR (ih_sR (ih_sR (ih_sR (ih_sI V4 53 4 (nI 0)) 0 5 (some 53)) 58 1 (some 59)) 58 0 (some 43)) 0 6 (some 58)) 60 0 (some 61)) 0 7 (some 60)) 0 8 (nI 0)) ih_T0 := by
  have hR : (ih_sI (ih_sR (ih_sR (ih_sR (ih_sR (ih_sR (ih_sR (ih_sI V4 53 4 (nI 0)) 0 5 (some 53)) 58 1 (some 59)) 58 0 (some 43)) 0 6 (some 58)) 60 0 (some 61)) 0 7 (some 60)) 0 8 (nI 0)).2.2 = ih_G0.2.2 := by
    have e1 : V1.2.2 = (ih_sR (ih_sR ih_Sc 43 0 (some 44)) 43 1 (some 45)).2.2 := by rw [hBT.1]
    have e4 : V4.2.2 = (ih_sR (ih_sR (ih_sR (ih_sR (ih_sR (ih_sR (ih_sI (ih_sI (ih_sR (ih_sR (ih_sR (ih_sR (ih_sR (ih_sR (ih_sR (ih_sR (ih_sR (ih_sR V1 0 3 (some 43)) 46 2 (some 47)) 46 4 (some 48)) 46 5 (some 49)) 46 6 (some 50)) 46 7 (some 51)) 46 8 (some 52)) 46 0 (some 43)) 46 1 (some 18)) 0 4 (some 46)) 54 0 (-1000000)) 54 1 (-1000000)) 53 2 (some 54)) 53 3 (some 55)) 53 5 (some 56)) 53 6 (some 57)) 53 0 (some 43)) 53 1 (some 18)).2.2 := by rw [hT4.1]
    show ih_u2 (ih_u2 (ih_u2 (ih_u2 (ih_u2 (ih_u2 V4.2.2 0 5 (some 53)) 58 1 (some 59)) 58 0 (some 43)) 0 6 (some 58)) 60 0 (some 61)) 0 7 (some 60) = _
    rw [e4]
    show ih_u2 (ih_u2 (ih_u2 (ih_u2 (ih_u2 (ih_u2 (ih_u2 (ih_u2 (ih_u2 (ih_u2 (ih_u2 (ih_u2 (ih_u2 (ih_u2 (ih_u2 (ih_u2 (ih_u2 (ih_u2 (ih_u2 (ih_u2 (ih_u2 (ih_u2 V1.2.2 0 3 (some 43)) 46 2 (some 47)) 46 4 (some 48)) 46 5 (some 49)) 46 6 (some 50)) 46 7 (some 51)) 46 8 (some 52)) 46 0 (some 43)) 46 1 (some 18)) 0 4 (some 46)) 53 2 (some 54)) 53 3 (some 55)) 53 5 (some 56)) 53 6 (some 57)) 53 0 (some 43)) 53 1 (some 18)) 0 5 (some 53)) 58 1 (some 59)) 58 0 (some 43)) 0 6 (some 58)) 60 0 (some 61)) 0 7 (some 60) = _
    rw [e1]
    rfl
  have hI : ∀ k, k ≠ 44 → k ≠ 45 → k ≠ 55 → (ih_sI (ih_sR (ih_sR (ih_sR (ih_sR (ih_sR (ih_sR (ih_sI V4 53 4 (nI 0)) 0 5 (some 53)) 58 1 (some 59)) 58 0 (some 43)) 0 6 (some 58)) 60 0 (some 61)) 0 7 (some 60)) 0 8 (nI 0)).1 k = ih_G0.1 k := by
    intro k h44 h45 h55
    show ih_u2 (ih_u2 V4.1 53 4 (nI 0)) 0 8 (nI 0) k = ih_u2 (ih_u2 (ih_u2 (ih_u2 ih_Sc.1 54 0 (-1000000)) 54 1 (-1000000)) 53 4 (nI 0)) 0 8 (nI 0) k
    refine ih_u2_cg (ih_u2_cg ((hT4.2.1 k h55).trans ?_))
    show ih_u2 (ih_u2 V1.1 54 0 (-1000000)) 54 1 (-1000000) k = _
    exact ih_u2_cg (ih_u2_cg (hBT.2.1 k h44 h45))
  have hz := ih_G0_o
  refine ⟨fun k j i q => ?_, ?_, ?_, ?_, fun s hs => ?_, fun k hk => ?_, ⟨?_, fun j hj => ?_⟩, fun t ht => ?_, ⟨?_, fun i hi => ?_⟩, ?_, 0, by decide, ?_, fun L hL => ?_, fun q => absurd q (Nat.lt_irrefl 0)⟩
  · rw [hR]
    have hb := ih_pX_lt q
    rcases ih_G0_p k hb.1 j hb.2 with e | e
    · rw [e] at q; cases q
    · rw [e]; exact q
  · rw [hR]
    exact ⟨Or.inl ⟨by decide +kernel, by decide +kernel⟩, Or.inl ⟨by decide +kernel, by decide +kernel⟩, Or.inl ⟨by decide +kernel, by decide +kernel⟩⟩
  · rw [hI 0 (by decide) (by decide) (by decide), ih_T0_z (by decide) (by decide)]; exact hz.2.2.2.2.2.2.1
  · rw [hI 0 (by decide) (by decide) (by decide), ih_T0_z (by decide) (by decide)]; exact hz.2.2.2.2.2.2.2
  · have h8 := ih_G0_s s hs
    rw [hI (2 + 2 * s) (by omega) (by omega) (by omega), hI (3 + 2 * s) (by omega) (by omega) (by omega), ih_T0_1 s hs, ih_T0_z (k := 2) (by decide) (by decide)]
    refine ⟨by rw [if_pos (by decide)]; exact h8.1, fun hn => absurd (by decide) hn, h8.2.1, fun j hj => ?_⟩
    rw [ih_T0_z (by decide) (by decide)]; exact h8.2.2 j hj
  · have h8 := ih_G0_k k hk
    rw [hI (20 + 2 * k) (by omega) (by omega) (by omega), hI (19 + 2 * k) (by omega) (by omega) (by omega)]
    refine ⟨fun a ha => ?_, ?_⟩
    · rw [ih_T0_z (by decide) (by decide)]; exact h8.1 a ha
    · rw [ih_T0_z (by decide) (by decide)]; exact h8.2
  · rw [hI 46 (by decide) (by decide) (by decide), ih_T0_z (by decide) (by decide)]; exact hz.1
  · rw [hI 47 (by decide) (by decide) (by decide), ih_T0_z (by decide) (by decide)]; exact hz.2.1 j hj
  · rw [hI 54 (by decide) (by decide) (by decide), ih_T0_9 t ht]; exact hz.2.2.1 t ht
  · rw [hI 60 (by decide) (by decide) (by decide), ih_T0_z (by decide) (by decide)]; exact hz.2.2.2.1
  · rw [hI 61 (by decide) (by decide) (by decide), ih_T0_z (by decide) (by decide)]; exact hz.2.2.2.2.1 i hi
  · have e44 : (ih_sI (ih_sR (ih_sR (ih_sR (ih_sR (ih_sR (ih_sR (ih_sI V4 53 4 (nI 0)) 0 5 (some 53)) 58 1 (some 59)) 58 0 (some 43)) 0 6 (some 58)) 60 0 (some 61)) 0 7 (some 60)) 0 8 (nI 0)).1 44 = V1.1 44 := by
      show ih_u2 (ih_u2 V4.1 53 4 (nI 0)) 0 8 (nI 0) 44 = V1.1 44
      rw [ih_u2_row (by decide), ih_u2_row (by decide), hT4.2.1 44 (by decide)]
      show ih_u2 (ih_u2 V1.1 54 0 (-1000000)) 54 1 (-1000000) 44 = _
      rw [ih_u2_row (by decide), ih_u2_row (by decide)]
    have e45 : (ih_sI (ih_sR (ih_sR (ih_sR (ih_sR (ih_sR (ih_sR (ih_sI V4 53 4 (nI 0)) 0 5 (some 53)) 58 1 (some 59)) 58 0 (some 43)) 0 6 (some 58)) 60 0 (some 61)) 0 7 (some 60)) 0 8 (nI 0)).1 45 = V1.1 45 := by
      show ih_u2 (ih_u2 V4.1 53 4 (nI 0)) 0 8 (nI 0) 45 = V1.1 45
      rw [ih_u2_row (by decide), ih_u2_row (by decide), hT4.2.1 45 (by decide)]
      show ih_u2 (ih_u2 V1.1 54 0 (-1000000)) 54 1 (-1000000) 45 = _
      rw [ih_u2_row (by decide), ih_u2_row (by decide)]
    unfold rx_b
    rw [e44, e45]
    exact ih_BT_b hBT
  · rw [hI 53 (by decide) (by decide) (by decide)]; exact hz.2.2.2.2.2.1
  · show ih_u2 (ih_u2 V4.1 53 4 (nI 0)) 0 8 (nI 0) 55 L = _
    rw [ih_u2_k (by decide), ih_u2_k (by decide), hT4.2.2 L hL, ih_st_0]
