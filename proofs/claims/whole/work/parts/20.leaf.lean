set_option maxHeartbeats 4000000 in
set_option maxRecDepth 100000 in
theorem c_X7_within (l : Launch) (w : ih_Wd) (sh : ih_Sh) (S : ih_Sg) (v a b : Int32) : ih_Ci l yX7_within wsX7_within 0 w sh [.int v, .int a, .int b] S (fun r S' => r = (if a.toInt ≤ v.toInt ∧ v.toInt ≤ b.toInt then nI 1 else nI 0) ∧ S' = S) := by
  refine ih_bodyi (ret := some .boolean) rfl rfl (Nat.le_of_ble_eq_true rfl) ?_
  intro x A hA C
  have C : ih_Ok x w A cX7_within 3 RX7 wsX7_within (ih_rm 0) (some .boolean) := C
  show ih_Mw x w sh A (ih_Qi x w sh A _) 3 0 0 0 [(0, .int v), (1, .int a), (2, .int b)] [] S
  refine s_iload_n C 0 dX7_within_0 rfl ?_
  refine s_iload_n C 1 dX7_within_1 rfl ?_
  refine s_icmp_lt C 14 dX7_within_2 (by decide) (fun h2 => ?_) (fun h2 => ?_)
  · refine s_iconst (v := nI 0) C dX7_within_14 (by decide) ?_
    exact s_zreturn C hA dX7_within_15 (by decide) ⟨by simp only [ih_lei, ih_lti] at h2; first | rw [if_pos (by omega)] | rw [if_neg (by omega)], rfl⟩
  · refine s_iload_n C 0 dX7_within_5 rfl ?_
    refine s_iload_n C 2 dX7_within_6 rfl ?_
    refine s_icmp_gt C 14 dX7_within_7 (by decide) (fun h7 => ?_) (fun h7 => ?_)
    · refine s_iconst (v := nI 0) C dX7_within_14 (by decide) ?_
      exact s_zreturn C hA dX7_within_15 (by decide) ⟨by simp only [ih_lei, ih_lti] at h2 h7; first | rw [if_pos (by omega)] | rw [if_neg (by omega)], rfl⟩
    · refine s_iconst (v := nI 1) C dX7_within_10 (by decide) ?_
      refine s_goto C 15 dX7_within_11 (by decide) ?_
      exact s_zreturn C hA dX7_within_15 (by decide) ⟨by simp only [ih_lei, ih_lti] at h2 h7; first | rw [if_pos (by omega)] | rw [if_neg (by omega)], rfl⟩

set_option maxHeartbeats 4000000 in
set_option maxRecDepth 100000 in
theorem c_X8_in (l : Launch) (w : ih_Wd) (sh : ih_Sh) (S : ih_Sg) (v a b : Int64) : ih_Ci l yX8_in wsX8_in 0 w sh [.long (v), .long (a), .long (b)] S (fun r S' => r = (if a.toInt ≤ v.toInt ∧ v.toInt ≤ b.toInt then nI 1 else nI 0) ∧ S' = S) := by
  refine ih_bodyi (ret := some .boolean) rfl rfl (Nat.le_of_ble_eq_true rfl) ?_
  intro x A hA C
  have C : ih_Ok x w A cX8_in 6 RX8 wsX8_in (ih_rm 0) (some .boolean) := C
  show ih_Mw x w sh A (ih_Qi x w sh A _) 6 0 0 0 [(0, .long (v)), (2, .long (a)), (4, .long (b))] [] S
  refine s_lload_n C 0 dX8_in_0 rfl ?_
  refine s_lload_n C 1 dX8_in_1 rfl ?_
  refine s_lcmp C dX8_in_2 ?_
  refine s_if_lt C 17 dX8_in_3 (by decide) (fun h3 => ?_) (fun h3 => ?_)
  · refine s_iconst (v := nI 0) C dX8_in_17 (by decide) ?_
    exact s_zreturn C hA dX8_in_18 (by decide) ⟨by simp only [lg_cmp_lt, lg_cmp_gt, ih_ltl] at h3; first | rw [if_pos (by omega)] | rw [if_neg (by omega)], rfl⟩
  · refine s_lload_n C 0 dX8_in_6 rfl ?_
    refine s_lload C 2 dX8_in_7 rfl ?_
    refine s_lcmp C dX8_in_9 ?_
    refine s_if_gt C 17 dX8_in_10 (by decide) (fun h10 => ?_) (fun h10 => ?_)
    · refine s_iconst (v := nI 0) C dX8_in_17 (by decide) ?_
      exact s_zreturn C hA dX8_in_18 (by decide) ⟨by simp only [lg_cmp_lt, lg_cmp_gt, ih_ltl] at h3 h10; first | rw [if_pos (by omega)] | rw [if_neg (by omega)], rfl⟩
    · refine s_iconst (v := nI 1) C dX8_in_13 (by decide) ?_
      refine s_goto C 18 dX8_in_14 (by decide) ?_
      exact s_zreturn C hA dX8_in_18 (by decide) ⟨by simp only [lg_cmp_lt, lg_cmp_gt, ih_ltl] at h3 h10; first | rw [if_pos (by omega)] | rw [if_neg (by omega)], rfl⟩
