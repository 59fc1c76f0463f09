/-! the field game's own numbers: the standing behind an act, the runs of it -/
def ih_pop (b : Nat) : Nat := b % 2 + b / 2 % 2 + b / 4 % 2
def ih_nx (s a : Nat) : Nat := match a with
  | 0 => if s / 8 = 2 then 24 else 8 * (s / 8 + 1) + s % 8
  | 1 => 8 * (s / 8) + (if s % 2 = 0 then s % 8 + 1 else if s / 2 % 2 = 0 then s % 8 + 2 else if s / 4 % 2 = 0 then s % 8 + 4 else s % 8)
  | 2 => 8 * (s / 8) + (s % 8 * 2 % 8 + 1)
  | 3 => 8 * (s / 8) + (2 + s % 2 * 4)
  | 4 => 8 * (s / 8) + 4
  | 5 => 8 * (s / 8)
  | 6 => if s / 8 = 2 then 24 else 8 * (s / 8 + 1) + s % 8 * 2 % 8
  | 7 => 8 * (s / 8) + (s / 4 % 2 * 4 + 2)
  | _ => if s / 8 = 2 then 24 else 8 * (s / 8 + 1) + s / 4 % 2 * 4
def ih_rn (s a : Nat) : Nat := match a with
  | 1 => if s % 8 = 7 then 1 else 0
  | 2 => s / 4 % 2
  | 3 => ih_pop (s % 8 / 2)
  | 4 => ih_pop (s % 8)
  | 5 => ih_pop (s % 8) + 1
  | 6 => if s / 8 = 2 then 0 else s / 4 % 2
  | _ => 0
def ih_may (s a : Nat) : Bool := decide (a < 7) || decide (s % 4 = 1)
theorem ih_nx_le : ∀ s, s < 24 → ∀ a, a < 9 → ih_nx s a < 25 := by decide
theorem ih_rn_le : ∀ s, s < 24 → ∀ a, a < 9 → ih_rn s a < 5 := by decide
theorem ih_a9 {a : Nat} (h : a < 9) : a = 0 ∨ a = 1 ∨ a = 2 ∨ a = 3 ∨ a = 4 ∨ a = 5 ∨ a = 6 ∨ a = 7 ∨ a = 8 := by omega
set_option maxHeartbeats 4000000 in
set_option maxRecDepth 100000 in
theorem c_X8_found (l : Launch) (w : ih_Wd) (S : ih_Sg) (n : Int32) : ih_Ci l yX8_found wsX8_found 0 w ih_shM [.ref (w.2.2 0), .int n] S (fun r S' => r = (-1000010) - n ∧ S' = ih_sI S 0 1 n) := by
  refine ih_bodyi (ret := some .int) rfl rfl (Nat.le_of_ble_eq_true rfl) ?_
  intro x A hA C
  have C : ih_Ok x w A cX8_found 2 RX8 wsX8_found (ih_rm 0) (some .int) := C
  show ih_Mw x w ih_shM A (ih_Qi x w ih_shM A _) 2 0 0 0 [(0, .ref (w.2.2 0)), (1, .int n)] [] S
  refine s_aload_n C 0 dX8_found_0 rfl ?_
  refine s_iload_n C 1 dX8_found_1 rfl ?_
  refine s_putI (ty := .int) C 8 1 tyX8 tyX8_ok nmX8 (by decide) rfl (by decide) rfl (fun _ h => List.mem_cons_of_mem _ (List.mem_append_right _ h)) (by decide) rfl (by decide +kernel) rfl (by decide +kernel) rfl rfl dX8_found_2 ?_
  refine s_ldc (v := (-1000010)) C (by decide +kernel) dX8_found_5 ?_
  refine s_iload_n C 1 dX8_found_7 rfl ?_
  refine s_isub C dX8_found_8  ?_
  exact s_ireturn C hA dX8_found_9 ⟨rfl, rfl⟩

set_option maxHeartbeats 4000000 in
set_option maxRecDepth 100000 in
theorem c_X8_isSheet (l : Launch) (w : ih_Wd) (S : ih_Sg) (s : Int32) : ih_Ci l yX8_isSheet wsX8_isSheet 1 w ih_shM [.int s] S (fun r S' => r = (if 0 ≤ s.toInt ∧ s.toInt ≤ 7 then nI 1 else nI 0) ∧ S' = S) := by
  refine ih_bodyi (ret := some .boolean) rfl rfl (Nat.le_of_ble_eq_true rfl) ?_
  intro x A hA C
  have C : ih_Ok x w A cX8_isSheet 1 RX8 wsX8_isSheet (ih_rm 1) (some .boolean) := C
  show ih_Mw x w ih_shM A (ih_Qi x w ih_shM A _) 1 0 0 0 [(0, .int s)] [] S
  refine s_iload_n C 0 dX8_isSheet_0 rfl ?_
  refine s_i2l C dX8_isSheet_1 ?_
  refine s_lconst (v := lN 0) C dX8_isSheet_2 rfl ?_
  refine s_ldc2 (v := lN 7) C (by decide +kernel) dX8_isSheet_3 ?_
  refine s_callSi 3 C (c_X8_in _ w _ _ _ _ _) gX8_isSheet_X8_in rfl (by decide +kernel) (by decide) (by decide) rfl rfl (Nat.le_of_ble_eq_true rfl) dX8_isSheet_6 ?_
  rintro r S2 ⟨hr, rfl⟩
  rw [ih_wide, ih_tl (by decide), ih_tl (by decide)] at hr
  exact s_zreturn C hA dX8_isSheet_9 (by rw [hr]; split <;> decide) ⟨hr, rfl⟩

set_option maxHeartbeats 4000000 in
set_option maxRecDepth 100000 in
theorem c_X8_isChance (l : Launch) (w : ih_Wd) (S : ih_Sg) (s : Int32) : ih_Ci l yX8_isChance wsX8_isChance 1 w ih_shM [.int s] S (fun r S' => r = (if 0 ≤ s.toInt ∧ s.toInt ≤ 1000 then nI 1 else nI 0) ∧ S' = S) := by
  refine ih_bodyi (ret := some .boolean) rfl rfl (Nat.le_of_ble_eq_true rfl) ?_
  intro x A hA C
  have C : ih_Ok x w A cX8_isChance 1 RX8 wsX8_isChance (ih_rm 1) (some .boolean) := C
  show ih_Mw x w ih_shM A (ih_Qi x w ih_shM A _) 1 0 0 0 [(0, .int s)] [] S
  refine s_iload_n C 0 dX8_isChance_0 rfl ?_
  refine s_i2l C dX8_isChance_1 ?_
  refine s_lconst (v := lN 0) C dX8_isChance_2 rfl ?_
  refine s_ldc2 (v := lN 1000) C (by decide +kernel) dX8_isChance_3 ?_
  refine s_callSi 3 C (c_X8_in _ w _ _ _ _ _) gX8_isChance_X8_in rfl (by decide +kernel) (by decide) (by decide) rfl rfl (Nat.le_of_ble_eq_true rfl) dX8_isChance_6 ?_
  rintro r S2 ⟨hr, rfl⟩
  rw [ih_wide, ih_tl (by decide), ih_tl (by decide)] at hr
  exact s_zreturn C hA dX8_isChance_9 (by rw [hr]; split <;> decide) ⟨hr, rfl⟩

set_option maxHeartbeats 4000000 in
set_option maxRecDepth 100000 in
theorem c_X8_mayBe (l : Launch) (w : ih_Wd) (S : ih_Sg) (s a : Nat) (hs : s < 24) (ha : a < 9) : ih_Ci l yX8_mayBe wsX8_mayBe 0 w ih_shM [.int (nI s), .int (nI a)] S (fun r S' => r = (if ih_may s a = true then nI 1 else nI 0) ∧ S' = S) := by
  refine ih_bodyi (ret := some .boolean) rfl rfl (Nat.le_of_ble_eq_true rfl) ?_
  intro x A hA C
  have C : ih_Ok x w A cX8_mayBe 2 RX8 wsX8_mayBe (ih_rm 0) (some .boolean) := C
  show ih_Mw x w ih_shM A (ih_Qi x w ih_shM A _) 2 0 0 0 [(0, .int (nI s)), (1, .int (nI a))] [] S
  refine s_iload_n C 1 dX8_mayBe_0 rfl ?_
  refine s_bipush (v := nI 7) C dX8_mayBe_1 (by decide) ?_
  refine s_icmp_ltN 13 C dX8_mayBe_3 (by decide) (by omega) (by omega) (fun h3 => ?_) (fun h3 => ?_)
  · refine s_iconst (v := nI 1) C dX8_mayBe_13 (by decide) ?_
    refine s_goto C 18 dX8_mayBe_14 (by decide) ?_
    exact s_zreturn C hA dX8_mayBe_18 (by decide) ⟨by revert h3; revert ha; revert a; revert hs; revert s; decide +kernel, rfl⟩
  · refine s_iload_n C 0 dX8_mayBe_6 rfl ?_
    refine s_iconst (v := nI 3) C dX8_mayBe_7 (by decide) ?_
    refine s_iand C dX8_mayBe_8 ?_
    refine s_iconst (v := nI 1) C dX8_mayBe_9 (by decide) ?_
    refine s_icmp_ne C 17 dX8_mayBe_10 (by decide) (fun h10 => ?_) (fun h10 => ?_)
    · refine s_iconst (v := nI 0) C dX8_mayBe_17 (by decide) ?_
      exact s_zreturn C hA dX8_mayBe_18 (by decide) ⟨by revert h10; revert h3; revert ha; revert a; revert hs; revert s; decide +kernel, rfl⟩
    · refine s_iconst (v := nI 1) C dX8_mayBe_13 (by decide) ?_
      refine s_goto C 18 dX8_mayBe_14 (by decide) ?_
      exact s_zreturn C hA dX8_mayBe_18 (by decide) ⟨by revert h10; revert h3; revert ha; revert a; revert hs; revert s; decide +kernel, rfl⟩

set_option maxHeartbeats 4000000 in
set_option maxRecDepth 100000 in
theorem c_X8_men (l : Launch) (w : ih_Wd) (S : ih_Sg) (b : Nat) (hb : b < 8) : ih_Ci l yX8_men wsX8_men 0 w ih_shM [.int (nI b)] S (fun r S' => r = nI (ih_pop b) ∧ S' = S) := by
  refine ih_bodyi (ret := some .int) rfl rfl (Nat.le_of_ble_eq_true rfl) ?_
  intro x A hA C
  have C : ih_Ok x w A cX8_men 1 RX8 wsX8_men (ih_rm 0) (some .int) := C
  show ih_Mw x w ih_shM A (ih_Qi x w ih_shM A _) 1 0 0 0 [(0, .int (nI b))] [] S
  refine s_iload_n C 0 dX8_men_0 rfl ?_
  refine s_iconst (v := nI 1) C dX8_men_1 (by decide) ?_
  refine s_iand C dX8_men_2 ?_
  refine s_iload_n C 0 dX8_men_3 rfl ?_
  refine s_iconst (v := nI 1) C dX8_men_4 (by decide) ?_
  refine s_ishr C dX8_men_5 ?_
  refine s_iconst (v := nI 1) C dX8_men_6 (by decide) ?_
  refine s_iand C dX8_men_7 ?_
  refine s_iadd C dX8_men_8  ?_
  refine s_iload_n C 0 dX8_men_9 rfl ?_
  refine s_iconst (v := nI 2) C dX8_men_10 (by decide) ?_
  refine s_ishr C dX8_men_11 ?_
  refine s_iconst (v := nI 1) C dX8_men_12 (by decide) ?_
  refine s_iand C dX8_men_13 ?_
  refine s_iadd C dX8_men_14  ?_
  exact s_ireturn C hA dX8_men_15 ⟨by revert hb; revert b; decide +kernel, rfl⟩

set_option maxHeartbeats 4000000 in
set_option maxRecDepth 100000 in
theorem c_X8_next_0 (l : Launch) (w : ih_Wd) (S : ih_Sg) (s : Nat) (hs : s < 24) : ih_Ci l yX8_next wsX8_next 0 w ih_shM [.int (nI s), .int (nI 0)] S (fun r S' => r = nI (ih_nx s 0) ∧ S' = S) := by
  refine ih_bodyi (ret := some .int) rfl rfl (Nat.le_of_ble_eq_true rfl) ?_
  intro x A hA C
  have C : ih_Ok x w A cX8_next 4 RX8 wsX8_next (ih_rm 0) (some .int) := C
  show ih_Mw x w ih_shM A (ih_Qi x w ih_shM A _) 4 0 0 0 [(0, .int (nI s)), (1, .int (nI 0))] [] S
  refine s_iload_n C 0 dX8_next_0 rfl ?_
  refine s_bipush (v := nI 7) C dX8_next_1 (by decide) ?_
  refine s_iand C dX8_next_3 ?_
  refine s_istore_n (lv' := [(2, .int ((nI (s)) &&& (nI (7)))), (0, .int (nI s)), (1, .int (nI 0))]) C dX8_next_4 rfl (by decide) rfl ?_
  refine s_iload_n C 1 dX8_next_5 rfl ?_
  refine s_bipush (v := nI 8) C dX8_next_6 (by decide) ?_
  refine s_idivN C dX8_next_8 (by omega) (by omega) (by omega) ?_
  refine s_istore_n (lv' := [(3, .int (nI (s / 8))), (2, .int ((nI (s)) &&& (nI (7)))), (0, .int (nI s)), (1, .int (nI 0))]) C dX8_next_9 rfl (by decide) rfl ?_
  refine s_iload_n C 3 dX8_next_10 rfl ?_
  refine s_tableIn (off := 45) C 56 dX8_next_11 (by decide) (by decide) (by decide) (by decide) ?_
  refine s_iinc (u := nI (s / 8 + 1)) (lv' := [(3, .int (nI (s / 8 + 1))), (2, .int ((nI (s)) &&& (nI (7)))), (0, .int (nI s)), (1, .int (nI 0))]) C 0 dX8_next_56 rfl (ih_incN (by decide)) (by decide) rfl ?_
  refine s_goto C 151 dX8_next_59 (by decide) ?_
  refine s_iload_n C 0 dX8_next_151 rfl ?_
  refine s_iconst (v := nI 3) C dX8_next_152 (by decide) ?_
  refine s_icmp_neN 161 C dX8_next_153 (by decide) (by omega) (by omega) (fun h153 => ?_) (fun h153 => ?_)
  · refine s_bipush (v := nI 8) C dX8_next_161 (by decide) ?_
    refine s_iload_n C 0 dX8_next_163 rfl ?_
    refine s_imulN C dX8_next_164 ?_
    refine s_iload_n C 1 dX8_next_165 rfl ?_
    refine s_iadd C dX8_next_166  ?_
    exact s_ireturn C hA dX8_next_167 ⟨(by revert h153; revert hs; revert s; decide +kernel), rfl⟩
  · refine s_bipush (v := nI 24) C dX8_next_156 (by decide) ?_
    refine s_goto C 167 dX8_next_158 (by decide) ?_
    exact s_ireturn C hA dX8_next_167 ⟨(by revert h153; revert hs; revert s; decide +kernel), rfl⟩

set_option maxHeartbeats 4000000 in
set_option maxRecDepth 100000 in
theorem c_X8_next_1 (l : Launch) (w : ih_Wd) (S : ih_Sg) (s : Nat) (hs : s < 24) : ih_Ci l yX8_next wsX8_next 0 w ih_shM [.int (nI s), .int (nI 1)] S (fun r S' => r = nI (ih_nx s 1) ∧ S' = S) := by
  refine ih_bodyi (ret := some .int) rfl rfl (Nat.le_of_ble_eq_true rfl) ?_
  intro x A hA C
  have C : ih_Ok x w A cX8_next 4 RX8 wsX8_next (ih_rm 0) (some .int) := C
  show ih_Mw x w ih_shM A (ih_Qi x w ih_shM A _) 4 0 0 0 [(0, .int (nI s)), (1, .int (nI 1))] [] S
  refine s_iload_n C 0 dX8_next_0 rfl ?_
  refine s_bipush (v := nI 7) C dX8_next_1 (by decide) ?_
  refine s_iand C dX8_next_3 ?_
  refine s_istore_n (lv' := [(2, .int ((nI (s)) &&& (nI (7)))), (0, .int (nI s)), (1, .int (nI 1))]) C dX8_next_4 rfl (by decide) rfl ?_
  refine s_iload_n C 1 dX8_next_5 rfl ?_
  refine s_bipush (v := nI 8) C dX8_next_6 (by decide) ?_
  refine s_idivN C dX8_next_8 (by omega) (by omega) (by omega) ?_
  refine s_istore_n (lv' := [(3, .int (nI (s / 8))), (2, .int ((nI (s)) &&& (nI (7)))), (0, .int (nI s)), (1, .int (nI 1))]) C dX8_next_9 rfl (by decide) rfl ?_
  refine s_iload_n C 3 dX8_next_10 rfl ?_
  refine s_tableIn (off := 51) C 62 dX8_next_11 (by decide) (by decide) (by decide) (by decide) ?_
  refine s_iload_n C 1 dX8_next_62 rfl ?_
  refine s_iload_n C 1 dX8_next_63 rfl ?_
  refine s_iconst (v := nI 1) C dX8_next_64 (by decide) ?_
  refine s_iand C dX8_next_65 ?_
  refine s_if_ne C 73 dX8_next_66 (by decide) (fun h66 => ?_) (fun h66 => ?_)
  · refine s_iload_n C 1 dX8_next_73 rfl ?_
    refine s_iconst (v := nI 2) C dX8_next_74 (by decide) ?_
    refine s_iand C dX8_next_75 ?_
    refine s_if_ne C 83 dX8_next_76 (by decide) (fun h76 => ?_) (fun h76 => ?_)
    · refine s_iconst (v := nI 4) C dX8_next_83 (by decide) ?_
      refine s_ior C dX8_next_84 ?_
      refine s_istore_n (lv' := [(2, .int (((nI (s)) &&& (nI (7))) ||| (nI (4)))), (3, .int (nI (s / 8))), (0, .int (nI s)), (1, .int (nI 1))]) C dX8_next_85 rfl (by decide) rfl ?_
      refine s_goto C 151 dX8_next_86 (by decide) ?_
      refine s_iload_n C 1 dX8_next_151 rfl ?_
      refine s_iconst (v := nI 3) C dX8_next_152 (by decide) ?_
      refine s_icmp_neN 161 C dX8_next_153 (by decide) (by omega) (by omega) (fun h153 => ?_) (fun h153 => ?_)
      · refine s_bipush (v := nI 8) C dX8_next_161 (by decide) ?_
        refine s_iload_n C 1 dX8_next_163 rfl ?_
        refine s_imulN C dX8_next_164 ?_
        refine s_iload_n C 0 dX8_next_165 rfl ?_
        refine s_iadd C dX8_next_166  ?_
        exact s_ireturn C hA dX8_next_167 ⟨(by revert h153; revert h76; revert h66; revert hs; revert s; decide +kernel), rfl⟩
      · refine s_bipush (v := nI 24) C dX8_next_156 (by decide) ?_
        refine s_goto C 167 dX8_next_158 (by decide) ?_
        exact s_ireturn C hA dX8_next_167 ⟨(by revert h153; revert h76; revert h66; revert hs; revert s; decide +kernel), rfl⟩
    · refine s_iconst (v := nI 2) C dX8_next_79 (by decide) ?_
      refine s_goto C 84 dX8_next_80 (by decide) ?_
      refine s_ior C dX8_next_84 ?_
      refine s_istore_n (lv' := [(2, .int (((nI (s)) &&& (nI (7))) ||| (nI (2)))), (3, .int (nI (s / 8))), (0, .int (nI s)), (1, .int (nI 1))]) C dX8_next_85 rfl (by decide) rfl ?_
      refine s_goto C 151 dX8_next_86 (by decide) ?_
      refine s_iload_n C 1 dX8_next_151 rfl ?_
      refine s_iconst (v := nI 3) C dX8_next_152 (by decide) ?_
      refine s_icmp_neN 161 C dX8_next_153 (by decide) (by omega) (by omega) (fun h153 => ?_) (fun h153 => ?_)
      · refine s_bipush (v := nI 8) C dX8_next_161 (by decide) ?_
        refine s_iload_n C 1 dX8_next_163 rfl ?_
        refine s_imulN C dX8_next_164 ?_
        refine s_iload_n C 0 dX8_next_165 rfl ?_
        refine s_iadd C dX8_next_166  ?_
        exact s_ireturn C hA dX8_next_167 ⟨(by revert h153; revert h76; revert h66; revert hs; revert s; decide +kernel), rfl⟩
      · refine s_bipush (v := nI 24) C dX8_next_156 (by decide) ?_
        refine s_goto C 167 dX8_next_158 (by decide) ?_
        exact s_ireturn C hA dX8_next_167 ⟨(by revert h153; revert h76; revert h66; revert hs; revert s; decide +kernel), rfl⟩
  · refine s_iconst (v := nI 1) C dX8_next_69 (by decide) ?_
    refine s_goto C 84 dX8_next_70 (by decide) ?_
    refine s_ior C dX8_next_84 ?_
    refine s_istore_n (lv' := [(2, .int (((nI (s)) &&& (nI (7))) ||| (nI (1)))), (3, .int (nI (s / 8))), (0, .int (nI s)), (1, .int (nI 1))]) C dX8_next_85 rfl (by decide) rfl ?_
    refine s_goto C 151 dX8_next_86 (by decide) ?_
    refine s_iload_n C 1 dX8_next_151 rfl ?_
    refine s_iconst (v := nI 3) C dX8_next_152 (by decide) ?_
    refine s_icmp_neN 161 C dX8_next_153 (by decide) (by omega) (by omega) (fun h153 => ?_) (fun h153 => ?_)
    · refine s_bipush (v := nI 8) C dX8_next_161 (by decide) ?_
      refine s_iload_n C 1 dX8_next_163 rfl ?_
      refine s_imulN C dX8_next_164 ?_
      refine s_iload_n C 0 dX8_next_165 rfl ?_
      refine s_iadd C dX8_next_166  ?_
      exact s_ireturn C hA dX8_next_167 ⟨(by revert h153; revert h66; revert hs; revert s; decide +kernel), rfl⟩
    · refine s_bipush (v := nI 24) C dX8_next_156 (by decide) ?_
      refine s_goto C 167 dX8_next_158 (by decide) ?_
      exact s_ireturn C hA dX8_next_167 ⟨(by revert h153; revert h66; revert hs; revert s; decide +kernel), rfl⟩

set_option maxHeartbeats 4000000 in
set_option maxRecDepth 100000 in
theorem c_X8_next_2 (l : Launch) (w : ih_Wd) (S : ih_Sg) (s : Nat) (hs : s < 24) : ih_Ci l yX8_next wsX8_next 0 w ih_shM [.int (nI s), .int (nI 2)] S (fun r S' => r = nI (ih_nx s 2) ∧ S' = S) := by
  refine ih_bodyi (ret := some .int) rfl rfl (Nat.le_of_ble_eq_true rfl) ?_
  intro x A hA C
  have C : ih_Ok x w A cX8_next 4 RX8 wsX8_next (ih_rm 0) (some .int) := C
  show ih_Mw x w ih_shM A (ih_Qi x w ih_shM A _) 4 0 0 0 [(0, .int (nI s)), (1, .int (nI 2))] [] S
  refine s_iload_n C 0 dX8_next_0 rfl ?_
  refine s_bipush (v := nI 7) C dX8_next_1 (by decide) ?_
  refine s_iand C dX8_next_3 ?_
  refine s_istore_n (lv' := [(2, .int ((nI (s)) &&& (nI (7)))), (0, .int (nI s)), (1, .int (nI 2))]) C dX8_next_4 rfl (by decide) rfl ?_
  refine s_iload_n C 1 dX8_next_5 rfl ?_
  refine s_bipush (v := nI 8) C dX8_next_6 (by decide) ?_
  refine s_idivN C dX8_next_8 (by omega) (by omega) (by omega) ?_
  refine s_istore_n (lv' := [(3, .int (nI (s / 8))), (2, .int ((nI (s)) &&& (nI (7)))), (0, .int (nI s)), (1, .int (nI 2))]) C dX8_next_9 rfl (by decide) rfl ?_
  refine s_iload_n C 3 dX8_next_10 rfl ?_
  refine s_tableIn (off := 78) C 89 dX8_next_11 (by decide) (by decide) (by decide) (by decide) ?_
  refine s_iload_n C 1 dX8_next_89 rfl ?_
  refine s_iconst (v := nI 1) C dX8_next_90 (by decide) ?_
  refine s_ishl C dX8_next_91 ?_
  refine s_bipush (v := nI 7) C dX8_next_92 (by decide) ?_
  refine s_iand C dX8_next_94 ?_
  refine s_iconst (v := nI 1) C dX8_next_95 (by decide) ?_
  refine s_ior C dX8_next_96 ?_
  refine s_istore_n (lv' := [(2, .int (((((nI (s)) &&& (nI (7))) <<< (nI (1) &&& 31)) &&& (nI (7))) ||| (nI (1)))), (3, .int (nI (s / 8))), (0, .int (nI s)), (1, .int (nI 2))]) C dX8_next_97 rfl (by decide) rfl ?_
  refine s_goto C 151 dX8_next_98 (by decide) ?_
  refine s_iload_n C 1 dX8_next_151 rfl ?_
  refine s_iconst (v := nI 3) C dX8_next_152 (by decide) ?_
  refine s_icmp_neN 161 C dX8_next_153 (by decide) (by omega) (by omega) (fun h153 => ?_) (fun h153 => ?_)
  · refine s_bipush (v := nI 8) C dX8_next_161 (by decide) ?_
    refine s_iload_n C 1 dX8_next_163 rfl ?_
    refine s_imulN C dX8_next_164 ?_
    refine s_iload_n C 0 dX8_next_165 rfl ?_
    refine s_iadd C dX8_next_166  ?_
    exact s_ireturn C hA dX8_next_167 ⟨(by revert h153; revert hs; revert s; decide +kernel), rfl⟩
  · refine s_bipush (v := nI 24) C dX8_next_156 (by decide) ?_
    refine s_goto C 167 dX8_next_158 (by decide) ?_
    exact s_ireturn C hA dX8_next_167 ⟨(by revert h153; revert hs; revert s; decide +kernel), rfl⟩

set_option maxHeartbeats 4000000 in
set_option maxRecDepth 100000 in
theorem c_X8_next_3 (l : Launch) (w : ih_Wd) (S : ih_Sg) (s : Nat) (hs : s < 24) : ih_Ci l yX8_next wsX8_next 0 w ih_shM [.int (nI s), .int (nI 3)] S (fun r S' => r = nI (ih_nx s 3) ∧ S' = S) := by
  refine ih_bodyi (ret := some .int) rfl rfl (Nat.le_of_ble_eq_true rfl) ?_
  intro x A hA C
  have C : ih_Ok x w A cX8_next 4 RX8 wsX8_next (ih_rm 0) (some .int) := C
  show ih_Mw x w ih_shM A (ih_Qi x w ih_shM A _) 4 0 0 0 [(0, .int (nI s)), (1, .int (nI 3))] [] S
  refine s_iload_n C 0 dX8_next_0 rfl ?_
  refine s_bipush (v := nI 7) C dX8_next_1 (by decide) ?_
  refine s_iand C dX8_next_3 ?_
  refine s_istore_n (lv' := [(2, .int ((nI (s)) &&& (nI (7)))), (0, .int (nI s)), (1, .int (nI 3))]) C dX8_next_4 rfl (by decide) rfl ?_
  refine s_iload_n C 1 dX8_next_5 rfl ?_
  refine s_bipush (v := nI 8) C dX8_next_6 (by decide) ?_
  refine s_idivN C dX8_next_8 (by omega) (by omega) (by omega) ?_
  refine s_istore_n (lv' := [(3, .int (nI (s / 8))), (2, .int ((nI (s)) &&& (nI (7)))), (0, .int (nI s)), (1, .int (nI 3))]) C dX8_next_9 rfl (by decide) rfl ?_
  refine s_iload_n C 3 dX8_next_10 rfl ?_
  refine s_tableIn (off := 90) C 101 dX8_next_11 (by decide) (by decide) (by decide) (by decide) ?_
  refine s_iconst (v := nI 2) C dX8_next_101 (by decide) ?_
  refine s_iload_n C 1 dX8_next_102 rfl ?_
  refine s_iconst (v := nI 1) C dX8_next_103 (by decide) ?_
  refine s_iand C dX8_next_104 ?_
  refine s_iconst (v := nI 2) C dX8_next_105 (by decide) ?_
  refine s_ishl C dX8_next_106 ?_
  refine s_ior C dX8_next_107 ?_
  refine s_istore_n (lv' := [(2, .int ((nI (2)) ||| ((((nI (s)) &&& (nI (7))) &&& (nI (1))) <<< (nI (2) &&& 31)))), (3, .int (nI (s / 8))), (0, .int (nI s)), (1, .int (nI 3))]) C dX8_next_108 rfl (by decide) rfl ?_
  refine s_goto C 151 dX8_next_109 (by decide) ?_
  refine s_iload_n C 1 dX8_next_151 rfl ?_
  refine s_iconst (v := nI 3) C dX8_next_152 (by decide) ?_
  refine s_icmp_neN 161 C dX8_next_153 (by decide) (by omega) (by omega) (fun h153 => ?_) (fun h153 => ?_)
  · refine s_bipush (v := nI 8) C dX8_next_161 (by decide) ?_
    refine s_iload_n C 1 dX8_next_163 rfl ?_
    refine s_imulN C dX8_next_164 ?_
    refine s_iload_n C 0 dX8_next_165 rfl ?_
    refine s_iadd C dX8_next_166  ?_
    exact s_ireturn C hA dX8_next_167 ⟨(by revert h153; revert hs; revert s; decide +kernel), rfl⟩
  · refine s_bipush (v := nI 24) C dX8_next_156 (by decide) ?_
    refine s_goto C 167 dX8_next_158 (by decide) ?_
    exact s_ireturn C hA dX8_next_167 ⟨(by revert h153; revert hs; revert s; decide +kernel), rfl⟩

set_option maxHeartbeats 4000000 in
set_option maxRecDepth 100000 in
theorem c_X8_next_4 (l : Launch) (w : ih_Wd) (S : ih_Sg) (s : Nat) (hs : s < 24) : ih_Ci l yX8_next wsX8_next 0 w ih_shM [.int (nI s), .int (nI 4)] S (fun r S' => r = nI (ih_nx s 4) ∧ S' = S) := by
  refine ih_bodyi (ret := some .int) rfl rfl (Nat.le_of_ble_eq_true rfl) ?_
  intro x A hA C
  have C : ih_Ok x w A cX8_next 4 RX8 wsX8_next (ih_rm 0) (some .int) := C
  show ih_Mw x w ih_shM A (ih_Qi x w ih_shM A _) 4 0 0 0 [(0, .int (nI s)), (1, .int (nI 4))] [] S
  refine s_iload_n C 0 dX8_next_0 rfl ?_
  refine s_bipush (v := nI 7) C dX8_next_1 (by decide) ?_
  refine s_iand C dX8_next_3 ?_
  refine s_istore_n (lv' := [(2, .int ((nI (s)) &&& (nI (7)))), (0, .int (nI s)), (1, .int (nI 4))]) C dX8_next_4 rfl (by decide) rfl ?_
  refine s_iload_n C 1 dX8_next_5 rfl ?_
  refine s_bipush (v := nI 8) C dX8_next_6 (by decide) ?_
  refine s_idivN C dX8_next_8 (by omega) (by omega) (by omega) ?_
  refine s_istore_n (lv' := [(3, .int (nI (s / 8))), (2, .int ((nI (s)) &&& (nI (7)))), (0, .int (nI s)), (1, .int (nI 4))]) C dX8_next_9 rfl (by decide) rfl ?_
  refine s_iload_n C 3 dX8_next_10 rfl ?_
  refine s_tableIn (off := 101) C 112 dX8_next_11 (by decide) (by decide) (by decide) (by decide) ?_
  refine s_iconst (v := nI 4) C dX8_next_112 (by decide) ?_
  refine s_istore_n (lv' := [(2, .int (nI 4)), (3, .int (nI (s / 8))), (0, .int (nI s)), (1, .int (nI 4))]) C dX8_next_113 rfl (by decide) rfl ?_
  refine s_goto C 151 dX8_next_114 (by decide) ?_
  refine s_iload_n C 1 dX8_next_151 rfl ?_
  refine s_iconst (v := nI 3) C dX8_next_152 (by decide) ?_
  refine s_icmp_neN 161 C dX8_next_153 (by decide) (by omega) (by omega) (fun h153 => ?_) (fun h153 => ?_)
  · refine s_bipush (v := nI 8) C dX8_next_161 (by decide) ?_
    refine s_iload_n C 1 dX8_next_163 rfl ?_
    refine s_imulN C dX8_next_164 ?_
    refine s_iload_n C 0 dX8_next_165 rfl ?_
    refine s_iaddN C dX8_next_166 ?_
    exact s_ireturn C hA dX8_next_167 ⟨(by revert h153; revert hs; revert s; decide +kernel), rfl⟩
  · refine s_bipush (v := nI 24) C dX8_next_156 (by decide) ?_
    refine s_goto C 167 dX8_next_158 (by decide) ?_
    exact s_ireturn C hA dX8_next_167 ⟨(by revert h153; revert hs; revert s; decide +kernel), rfl⟩

set_option maxHeartbeats 4000000 in
set_option maxRecDepth 100000 in
theorem c_X8_next_5 (l : Launch) (w : ih_Wd) (S : ih_Sg) (s : Nat) (hs : s < 24) : ih_Ci l yX8_next wsX8_next 0 w ih_shM [.int (nI s), .int (nI 5)] S (fun r S' => r = nI (ih_nx s 5) ∧ S' = S) := by
  refine ih_bodyi (ret := some .int) rfl rfl (Nat.le_of_ble_eq_true rfl) ?_
  intro x A hA C
  have C : ih_Ok x w A cX8_next 4 RX8 wsX8_next (ih_rm 0) (some .int) := C
  show ih_Mw x w ih_shM A (ih_Qi x w ih_shM A _) 4 0 0 0 [(0, .int (nI s)), (1, .int (nI 5))] [] S
  refine s_iload_n C 0 dX8_next_0 rfl ?_
  refine s_bipush (v := nI 7) C dX8_next_1 (by decide) ?_
  refine s_iand C dX8_next_3 ?_
  refine s_istore_n (lv' := [(2, .int ((nI (s)) &&& (nI (7)))), (0, .int (nI s)), (1, .int (nI 5))]) C dX8_next_4 rfl (by decide) rfl ?_
  refine s_iload_n C 1 dX8_next_5 rfl ?_
  refine s_bipush (v := nI 8) C dX8_next_6 (by decide) ?_
  refine s_idivN C dX8_next_8 (by omega) (by omega) (by omega) ?_
  refine s_istore_n (lv' := [(3, .int (nI (s / 8))), (2, .int ((nI (s)) &&& (nI (7)))), (0, .int (nI s)), (1, .int (nI 5))]) C dX8_next_9 rfl (by decide) rfl ?_
  refine s_iload_n C 3 dX8_next_10 rfl ?_
  refine s_tableIn (off := 106) C 117 dX8_next_11 (by decide) (by decide) (by decide) (by decide) ?_
  refine s_iconst (v := nI 0) C dX8_next_117 (by decide) ?_
  refine s_istore_n (lv' := [(2, .int (nI 0)), (3, .int (nI (s / 8))), (0, .int (nI s)), (1, .int (nI 5))]) C dX8_next_118 rfl (by decide) rfl ?_
  refine s_goto C 151 dX8_next_119 (by decide) ?_
  refine s_iload_n C 1 dX8_next_151 rfl ?_
  refine s_iconst (v := nI 3) C dX8_next_152 (by decide) ?_
  refine s_icmp_neN 161 C dX8_next_153 (by decide) (by omega) (by omega) (fun h153 => ?_) (fun h153 => ?_)
  · refine s_bipush (v := nI 8) C dX8_next_161 (by decide) ?_
    refine s_iload_n C 1 dX8_next_163 rfl ?_
    refine s_imulN C dX8_next_164 ?_
    refine s_iload_n C 0 dX8_next_165 rfl ?_
    refine s_iaddN C dX8_next_166 ?_
    exact s_ireturn C hA dX8_next_167 ⟨(by revert h153; revert hs; revert s; decide +kernel), rfl⟩
  · refine s_bipush (v := nI 24) C dX8_next_156 (by decide) ?_
    refine s_goto C 167 dX8_next_158 (by decide) ?_
    exact s_ireturn C hA dX8_next_167 ⟨(by revert h153; revert hs; revert s; decide +kernel), rfl⟩

set_option maxHeartbeats 4000000 in
set_option maxRecDepth 100000 in
theorem c_X8_next_6 (l : Launch) (w : ih_Wd) (S : ih_Sg) (s : Nat) (hs : s < 24) : ih_Ci l yX8_next wsX8_next 0 w ih_shM [.int (nI s), .int (nI 6)] S (fun r S' => r = nI (ih_nx s 6) ∧ S' = S) := by
  refine ih_bodyi (ret := some .int) rfl rfl (Nat.le_of_ble_eq_true rfl) ?_
  intro x A hA C
  have C : ih_Ok x w A cX8_next 4 RX8 wsX8_next (ih_rm 0) (some .int) := C
  show ih_Mw x w ih_shM A (ih_Qi x w ih_shM A _) 4 0 0 0 [(0, .int (nI s)), (1, .int (nI 6))] [] S
  refine s_iload_n C 0 dX8_next_0 rfl ?_
  refine s_bipush (v := nI 7) C dX8_next_1 (by decide) ?_
  refine s_iand C dX8_next_3 ?_
  refine s_istore_n (lv' := [(2, .int ((nI (s)) &&& (nI (7)))), (0, .int (nI s)), (1, .int (nI 6))]) C dX8_next_4 rfl (by decide) rfl ?_
  refine s_iload_n C 1 dX8_next_5 rfl ?_
  refine s_bipush (v := nI 8) C dX8_next_6 (by decide) ?_
  refine s_idivN C dX8_next_8 (by omega) (by omega) (by omega) ?_
  refine s_istore_n (lv' := [(3, .int (nI (s / 8))), (2, .int ((nI (s)) &&& (nI (7)))), (0, .int (nI s)), (1, .int (nI 6))]) C dX8_next_9 rfl (by decide) rfl ?_
  refine s_iload_n C 3 dX8_next_10 rfl ?_
  refine s_tableIn (off := 111) C 122 dX8_next_11 (by decide) (by decide) (by decide) (by decide) ?_
  refine s_iinc (u := nI (s / 8 + 1)) (lv' := [(3, .int (nI (s / 8 + 1))), (2, .int ((nI (s)) &&& (nI (7)))), (0, .int (nI s)), (1, .int (nI 6))]) C 0 dX8_next_122 rfl (ih_incN (by decide)) (by decide) rfl ?_
  refine s_iload_n C 1 dX8_next_125 rfl ?_
  refine s_iconst (v := nI 1) C dX8_next_126 (by decide) ?_
  refine s_ishl C dX8_next_127 ?_
  refine s_bipush (v := nI 7) C dX8_next_128 (by decide) ?_
  refine s_iand C dX8_next_130 ?_
  refine s_istore_n (lv' := [(2, .int ((((nI (s)) &&& (nI (7))) <<< (nI (1) &&& 31)) &&& (nI (7)))), (3, .int (nI (s / 8 + 1))), (0, .int (nI s)), (1, .int (nI 6))]) C dX8_next_131 rfl (by decide) rfl ?_
  refine s_goto C 151 dX8_next_132 (by decide) ?_
  refine s_iload_n C 1 dX8_next_151 rfl ?_
  refine s_iconst (v := nI 3) C dX8_next_152 (by decide) ?_
  refine s_icmp_neN 161 C dX8_next_153 (by decide) (by omega) (by omega) (fun h153 => ?_) (fun h153 => ?_)
  · refine s_bipush (v := nI 8) C dX8_next_161 (by decide) ?_
    refine s_iload_n C 1 dX8_next_163 rfl ?_
    refine s_imulN C dX8_next_164 ?_
    refine s_iload_n C 0 dX8_next_165 rfl ?_
    refine s_iadd C dX8_next_166  ?_
    exact s_ireturn C hA dX8_next_167 ⟨(by revert h153; revert hs; revert s; decide +kernel), rfl⟩
  · refine s_bipush (v := nI 24) C dX8_next_156 (by decide) ?_
    refine s_goto C 167 dX8_next_158 (by decide) ?_
    exact s_ireturn C hA dX8_next_167 ⟨(by revert h153; revert hs; revert s; decide +kernel), rfl⟩

set_option maxHeartbeats 4000000 in
set_option maxRecDepth 100000 in
theorem c_X8_next_7 (l : Launch) (w : ih_Wd) (S : ih_Sg) (s : Nat) (hs : s < 24) : ih_Ci l yX8_next wsX8_next 0 w ih_shM [.int (nI s), .int (nI 7)] S (fun r S' => r = nI (ih_nx s 7) ∧ S' = S) := by
  refine ih_bodyi (ret := some .int) rfl rfl (Nat.le_of_ble_eq_true rfl) ?_
  intro x A hA C
  have C : ih_Ok x w A cX8_next 4 RX8 wsX8_next (ih_rm 0) (some .int) := C
  show ih_Mw x w ih_shM A (ih_Qi x w ih_shM A _) 4 0 0 0 [(0, .int (nI s)), (1, .int (nI 7))] [] S
  refine s_iload_n C 0 dX8_next_0 rfl ?_
  refine s_bipush (v := nI 7) C dX8_next_1 (by decide) ?_
  refine s_iand C dX8_next_3 ?_
  refine s_istore_n (lv' := [(2, .int ((nI (s)) &&& (nI (7)))), (0, .int (nI s)), (1, .int (nI 7))]) C dX8_next_4 rfl (by decide) rfl ?_
  refine s_iload_n C 1 dX8_next_5 rfl ?_
  refine s_bipush (v := nI 8) C dX8_next_6 (by decide) ?_
  refine s_idivN C dX8_next_8 (by omega) (by omega) (by omega) ?_
  refine s_istore_n (lv' := [(3, .int (nI (s / 8))), (2, .int ((nI (s)) &&& (nI (7)))), (0, .int (nI s)), (1, .int (nI 7))]) C dX8_next_9 rfl (by decide) rfl ?_
  refine s_iload_n C 3 dX8_next_10 rfl ?_
  refine s_tableIn (off := 124) C 135 dX8_next_11 (by decide) (by decide) (by decide) (by decide) ?_
  refine s_iload_n C 1 dX8_next_135 rfl ?_
  refine s_iconst (v := nI 4) C dX8_next_136 (by decide) ?_
  refine s_iand C dX8_next_137 ?_
  refine s_iconst (v := nI 2) C dX8_next_138 (by decide) ?_
  refine s_ior C dX8_next_139 ?_
  refine s_istore_n (lv' := [(2, .int ((((nI (s)) &&& (nI (7))) &&& (nI (4))) ||| (nI (2)))), (3, .int (nI (s / 8))), (0, .int (nI s)), (1, .int (nI 7))]) C dX8_next_140 rfl (by decide) rfl ?_
  refine s_goto C 151 dX8_next_141 (by decide) ?_
  refine s_iload_n C 1 dX8_next_151 rfl ?_
  refine s_iconst (v := nI 3) C dX8_next_152 (by decide) ?_
  refine s_icmp_neN 161 C dX8_next_153 (by decide) (by omega) (by omega) (fun h153 => ?_) (fun h153 => ?_)
  · refine s_bipush (v := nI 8) C dX8_next_161 (by decide) ?_
    refine s_iload_n C 1 dX8_next_163 rfl ?_
    refine s_imulN C dX8_next_164 ?_
    refine s_iload_n C 0 dX8_next_165 rfl ?_
    refine s_iadd C dX8_next_166  ?_
    exact s_ireturn C hA dX8_next_167 ⟨(by revert h153; revert hs; revert s; decide +kernel), rfl⟩
  · refine s_bipush (v := nI 24) C dX8_next_156 (by decide) ?_
    refine s_goto C 167 dX8_next_158 (by decide) ?_
    exact s_ireturn C hA dX8_next_167 ⟨(by revert h153; revert hs; revert s; decide +kernel), rfl⟩

set_option maxHeartbeats 4000000 in
set_option maxRecDepth 100000 in
theorem c_X8_next_8 (l : Launch) (w : ih_Wd) (S : ih_Sg) (s : Nat) (hs : s < 24) : ih_Ci l yX8_next wsX8_next 0 w ih_shM [.int (nI s), .int (nI 8)] S (fun r S' => r = nI (ih_nx s 8) ∧ S' = S) := by
  refine ih_bodyi (ret := some .int) rfl rfl (Nat.le_of_ble_eq_true rfl) ?_
  intro x A hA C
  have C : ih_Ok x w A cX8_next 4 RX8 wsX8_next (ih_rm 0) (some .int) := C
  show ih_Mw x w ih_shM A (ih_Qi x w ih_shM A _) 4 0 0 0 [(0, .int (nI s)), (1, .int (nI 8))] [] S
  refine s_iload_n C 0 dX8_next_0 rfl ?_
  refine s_bipush (v := nI 7) C dX8_next_1 (by decide) ?_
  refine s_iand C dX8_next_3 ?_
  refine s_istore_n (lv' := [(2, .int ((nI (s)) &&& (nI (7)))), (0, .int (nI s)), (1, .int (nI 8))]) C dX8_next_4 rfl (by decide) rfl ?_
  refine s_iload_n C 1 dX8_next_5 rfl ?_
  refine s_bipush (v := nI 8) C dX8_next_6 (by decide) ?_
  refine s_idivN C dX8_next_8 (by omega) (by omega) (by omega) ?_
  refine s_istore_n (lv' := [(3, .int (nI (s / 8))), (2, .int ((nI (s)) &&& (nI (7)))), (0, .int (nI s)), (1, .int (nI 8))]) C dX8_next_9 rfl (by decide) rfl ?_
  refine s_iload_n C 3 dX8_next_10 rfl ?_
  refine s_tableOut C 144 dX8_next_11 (by decide) (by decide) ?_
  refine s_iinc (u := nI (s / 8 + 1)) (lv' := [(3, .int (nI (s / 8 + 1))), (2, .int ((nI (s)) &&& (nI (7)))), (0, .int (nI s)), (1, .int (nI 8))]) C 0 dX8_next_144 rfl (ih_incN (by decide)) (by decide) rfl ?_
  refine s_iload_n C 1 dX8_next_147 rfl ?_
  refine s_iconst (v := nI 4) C dX8_next_148 (by decide) ?_
  refine s_iand C dX8_next_149 ?_
  refine s_istore_n (lv' := [(2, .int (((nI (s)) &&& (nI (7))) &&& (nI (4)))), (3, .int (nI (s / 8 + 1))), (0, .int (nI s)), (1, .int (nI 8))]) C dX8_next_150 rfl (by decide) rfl ?_
  refine s_iload_n C 1 dX8_next_151 rfl ?_
  refine s_iconst (v := nI 3) C dX8_next_152 (by decide) ?_
  refine s_icmp_neN 161 C dX8_next_153 (by decide) (by omega) (by omega) (fun h153 => ?_) (fun h153 => ?_)
  · refine s_bipush (v := nI 8) C dX8_next_161 (by decide) ?_
    refine s_iload_n C 1 dX8_next_163 rfl ?_
    refine s_imulN C dX8_next_164 ?_
    refine s_iload_n C 0 dX8_next_165 rfl ?_
    refine s_iadd C dX8_next_166  ?_
    exact s_ireturn C hA dX8_next_167 ⟨(by revert h153; revert hs; revert s; decide +kernel), rfl⟩
  · refine s_bipush (v := nI 24) C dX8_next_156 (by decide) ?_
    refine s_goto C 167 dX8_next_158 (by decide) ?_
    exact s_ireturn C hA dX8_next_167 ⟨(by revert h153; revert hs; revert s; decide +kernel), rfl⟩

theorem c_X8_next (l : Launch) (w : ih_Wd) (S : ih_Sg) (s a : Nat) (hs : s < 24) (ha : a < 9) : ih_Ci l yX8_next wsX8_next 0 w ih_shM [.int (nI s), .int (nI a)] S (fun r S' => r = nI (ih_nx s a) ∧ S' = S) := by
  rcases ih_a9 ha with rfl | rfl | rfl | rfl | rfl | rfl | rfl | rfl | rfl
  · exact c_X8_next_0 l w S s hs
  · exact c_X8_next_1 l w S s hs
  · exact c_X8_next_2 l w S s hs
  · exact c_X8_next_3 l w S s hs
  · exact c_X8_next_4 l w S s hs
  · exact c_X8_next_5 l w S s hs
  · exact c_X8_next_6 l w S s hs
  · exact c_X8_next_7 l w S s hs
  · exact c_X8_next_8 l w S s hs
set_option maxHeartbeats 4000000 in
set_option maxRecDepth 100000 in
theorem c_X8_runs_0 (l : Launch) (w : ih_Wd) (S : ih_Sg) (s : Nat) (hs : s < 24) : ih_Ci l yX8_runs wsX8_runs 1 w ih_shM [.int (nI s), .int (nI 0)] S (fun r S' => r = nI (ih_rn s 0) ∧ S' = S) := by
  refine ih_bodyi (ret := some .int) rfl rfl (Nat.le_of_ble_eq_true rfl) ?_
  intro x A hA C
  have C : ih_Ok x w A cX8_runs 3 RX8 wsX8_runs (ih_rm 1) (some .int) := C
  show ih_Mw x w ih_shM A (ih_Qi x w ih_shM A _) 3 0 0 0 [(0, .int (nI s)), (1, .int (nI 0))] [] S
  refine s_iload_n C 0 dX8_runs_0 rfl ?_
  refine s_bipush (v := nI 7) C dX8_runs_1 (by decide) ?_
  refine s_iand C dX8_runs_3 ?_
  refine s_istore_n (lv' := [(2, .int ((nI (s)) &&& (nI (7)))), (0, .int (nI s)), (1, .int (nI 0))]) C dX8_runs_4 rfl (by decide) rfl ?_
  refine s_iload_n C 2 dX8_runs_5 rfl ?_
  refine s_tableOut C 95 dX8_runs_6 (by decide) (by decide) ?_
  refine s_iconst (v := nI 0) C dX8_runs_95 (by decide) ?_
  exact s_ireturn C hA dX8_runs_96 ⟨(by revert hs; revert s; decide +kernel), rfl⟩

set_option maxHeartbeats 4000000 in
set_option maxRecDepth 100000 in
theorem c_X8_runs_1 (l : Launch) (w : ih_Wd) (S : ih_Sg) (s : Nat) (hs : s < 24) : ih_Ci l yX8_runs wsX8_runs 1 w ih_shM [.int (nI s), .int (nI 1)] S (fun r S' => r = nI (ih_rn s 1) ∧ S' = S) := by
  refine ih_bodyi (ret := some .int) rfl rfl (Nat.le_of_ble_eq_true rfl) ?_
  intro x A hA C
  have C : ih_Ok x w A cX8_runs 3 RX8 wsX8_runs (ih_rm 1) (some .int) := C
  show ih_Mw x w ih_shM A (ih_Qi x w ih_shM A _) 3 0 0 0 [(0, .int (nI s)), (1, .int (nI 1))] [] S
  refine s_iload_n C 0 dX8_runs_0 rfl ?_
  refine s_bipush (v := nI 7) C dX8_runs_1 (by decide) ?_
  refine s_iand C dX8_runs_3 ?_
  refine s_istore_n (lv' := [(2, .int ((nI (s)) &&& (nI (7)))), (0, .int (nI s)), (1, .int (nI 1))]) C dX8_runs_4 rfl (by decide) rfl ?_
  refine s_iload_n C 2 dX8_runs_5 rfl ?_
  refine s_tableIn (off := 38) C 44 dX8_runs_6 (by decide) (by decide) (by decide) (by decide) ?_
  refine s_iload_n C 0 dX8_runs_44 rfl ?_
  refine s_bipush (v := nI 7) C dX8_runs_45 (by decide) ?_
  refine s_icmp_ne C 54 dX8_runs_47 (by decide) (fun h47 => ?_) (fun h47 => ?_)
  · refine s_iconst (v := nI 0) C dX8_runs_54 (by decide) ?_
    exact s_ireturn C hA dX8_runs_55 ⟨(by revert h47; revert hs; revert s; decide +kernel), rfl⟩
  · refine s_iconst (v := nI 1) C dX8_runs_50 (by decide) ?_
    refine s_goto C 55 dX8_runs_51 (by decide) ?_
    exact s_ireturn C hA dX8_runs_55 ⟨(by revert h47; revert hs; revert s; decide +kernel), rfl⟩

set_option maxHeartbeats 4000000 in
set_option maxRecDepth 100000 in
theorem c_X8_runs_2 (l : Launch) (w : ih_Wd) (S : ih_Sg) (s : Nat) (hs : s < 24) : ih_Ci l yX8_runs wsX8_runs 1 w ih_shM [.int (nI s), .int (nI 2)] S (fun r S' => r = nI (ih_rn s 2) ∧ S' = S) := by
  refine ih_bodyi (ret := some .int) rfl rfl (Nat.le_of_ble_eq_true rfl) ?_
  intro x A hA C
  have C : ih_Ok x w A cX8_runs 3 RX8 wsX8_runs (ih_rm 1) (some .int) := C
  show ih_Mw x w ih_shM A (ih_Qi x w ih_shM A _) 3 0 0 0 [(0, .int (nI s)), (1, .int (nI 2))] [] S
  refine s_iload_n C 0 dX8_runs_0 rfl ?_
  refine s_bipush (v := nI 7) C dX8_runs_1 (by decide) ?_
  refine s_iand C dX8_runs_3 ?_
  refine s_istore_n (lv' := [(2, .int ((nI (s)) &&& (nI (7)))), (0, .int (nI s)), (1, .int (nI 2))]) C dX8_runs_4 rfl (by decide) rfl ?_
  refine s_iload_n C 2 dX8_runs_5 rfl ?_
  refine s_tableIn (off := 50) C 56 dX8_runs_6 (by decide) (by decide) (by decide) (by decide) ?_
  refine s_iload_n C 0 dX8_runs_56 rfl ?_
  refine s_iconst (v := nI 2) C dX8_runs_57 (by decide) ?_
  refine s_ishr C dX8_runs_58 ?_
  exact s_ireturn C hA dX8_runs_59 ⟨(by revert hs; revert s; decide +kernel), rfl⟩

set_option maxHeartbeats 4000000 in
set_option maxRecDepth 100000 in
theorem c_X8_runs_3 (l : Launch) (w : ih_Wd) (S : ih_Sg) (s : Nat) (hs : s < 24) : ih_Ci l yX8_runs wsX8_runs 1 w ih_shM [.int (nI s), .int (nI 3)] S (fun r S' => r = nI (ih_rn s 3) ∧ S' = S) := by
  refine ih_bodyi (ret := some .int) rfl rfl (Nat.le_of_ble_eq_true rfl) ?_
  intro x A hA C
  have C : ih_Ok x w A cX8_runs 3 RX8 wsX8_runs (ih_rm 1) (some .int) := C
  show ih_Mw x w ih_shM A (ih_Qi x w ih_shM A _) 3 0 0 0 [(0, .int (nI s)), (1, .int (nI 3))] [] S
  refine s_iload_n C 0 dX8_runs_0 rfl ?_
  refine s_bipush (v := nI 7) C dX8_runs_1 (by decide) ?_
  refine s_iand C dX8_runs_3 ?_
  refine s_istore_n (lv' := [(2, .int ((nI (s)) &&& (nI (7)))), (0, .int (nI s)), (1, .int (nI 3))]) C dX8_runs_4 rfl (by decide) rfl ?_
  refine s_iload_n C 2 dX8_runs_5 rfl ?_
  refine s_tableIn (off := 54) C 60 dX8_runs_6 (by decide) (by decide) (by decide) (by decide) ?_
  refine s_iload_n C 0 dX8_runs_60 rfl ?_
  refine s_iconst (v := nI 1) C dX8_runs_61 (by decide) ?_
  refine s_ishr C dX8_runs_62 ?_
  refine s_toe (b := nI (s % 8 / 2)) (by revert hs; revert s; decide +kernel) ?_
  refine s_callSi 1 C (c_X8_men _ w _ (s % 8 / 2) (by omega)) gX8_runs_X8_men rfl (by decide +kernel) (by decide) (by decide) rfl rfl (Nat.le_of_ble_eq_true rfl) dX8_runs_63 ?_
  rintro r S2 ⟨hr, rfl⟩
  exact s_ireturn C hA dX8_runs_66 ⟨(by rw [hr]; rfl), rfl⟩

set_option maxHeartbeats 4000000 in
set_option maxRecDepth 100000 in
theorem c_X8_runs_4 (l : Launch) (w : ih_Wd) (S : ih_Sg) (s : Nat) (hs : s < 24) : ih_Ci l yX8_runs wsX8_runs 1 w ih_shM [.int (nI s), .int (nI 4)] S (fun r S' => r = nI (ih_rn s 4) ∧ S' = S) := by
  refine ih_bodyi (ret := some .int) rfl rfl (Nat.le_of_ble_eq_true rfl) ?_
  intro x A hA C
  have C : ih_Ok x w A cX8_runs 3 RX8 wsX8_runs (ih_rm 1) (some .int) := C
  show ih_Mw x w ih_shM A (ih_Qi x w ih_shM A _) 3 0 0 0 [(0, .int (nI s)), (1, .int (nI 4))] [] S
  refine s_iload_n C 0 dX8_runs_0 rfl ?_
  refine s_bipush (v := nI 7) C dX8_runs_1 (by decide) ?_
  refine s_iand C dX8_runs_3 ?_
  refine s_istore_n (lv' := [(2, .int ((nI (s)) &&& (nI (7)))), (0, .int (nI s)), (1, .int (nI 4))]) C dX8_runs_4 rfl (by decide) rfl ?_
  refine s_iload_n C 2 dX8_runs_5 rfl ?_
  refine s_tableIn (off := 61) C 67 dX8_runs_6 (by decide) (by decide) (by decide) (by decide) ?_
  refine s_iload_n C 0 dX8_runs_67 rfl ?_
  refine s_toe (b := nI (s % 8)) (by revert hs; revert s; decide +kernel) ?_
  refine s_callSi 1 C (c_X8_men _ w _ (s % 8) (by omega)) gX8_runs_X8_men rfl (by decide +kernel) (by decide) (by decide) rfl rfl (Nat.le_of_ble_eq_true rfl) dX8_runs_68 ?_
  rintro r S2 ⟨hr, rfl⟩
  exact s_ireturn C hA dX8_runs_71 ⟨(by rw [hr]; rfl), rfl⟩

set_option maxHeartbeats 4000000 in
set_option maxRecDepth 100000 in
theorem c_X8_runs_5 (l : Launch) (w : ih_Wd) (S : ih_Sg) (s : Nat) (hs : s < 24) : ih_Ci l yX8_runs wsX8_runs 1 w ih_shM [.int (nI s), .int (nI 5)] S (fun r S' => r = nI (ih_rn s 5) ∧ S' = S) := by
  refine ih_bodyi (ret := some .int) rfl rfl (Nat.le_of_ble_eq_true rfl) ?_
  intro x A hA C
  have C : ih_Ok x w A cX8_runs 3 RX8 wsX8_runs (ih_rm 1) (some .int) := C
  show ih_Mw x w ih_shM A (ih_Qi x w ih_shM A _) 3 0 0 0 [(0, .int (nI s)), (1, .int (nI 5))] [] S
  refine s_iload_n C 0 dX8_runs_0 rfl ?_
  refine s_bipush (v := nI 7) C dX8_runs_1 (by decide) ?_
  refine s_iand C dX8_runs_3 ?_
  refine s_istore_n (lv' := [(2, .int ((nI (s)) &&& (nI (7)))), (0, .int (nI s)), (1, .int (nI 5))]) C dX8_runs_4 rfl (by decide) rfl ?_
  refine s_iload_n C 2 dX8_runs_5 rfl ?_
  refine s_tableIn (off := 66) C 72 dX8_runs_6 (by decide) (by decide) (by decide) (by decide) ?_
  refine s_iload_n C 0 dX8_runs_72 rfl ?_
  refine s_toe (b := nI (s % 8)) (by revert hs; revert s; decide +kernel) ?_
  refine s_callSi 1 C (c_X8_men _ w _ (s % 8) (by omega)) gX8_runs_X8_men rfl (by decide +kernel) (by decide) (by decide) rfl rfl (Nat.le_of_ble_eq_true rfl) dX8_runs_73 ?_
  rintro r S2 ⟨hr, rfl⟩
  refine s_iconst (v := nI 1) C dX8_runs_76 (by decide) ?_
  refine s_iadd C dX8_runs_77  ?_
  exact s_ireturn C hA dX8_runs_78 ⟨(by rw [hr]; exact nI_add _ 1), rfl⟩

set_option maxHeartbeats 4000000 in
set_option maxRecDepth 100000 in
theorem c_X8_runs_6 (l : Launch) (w : ih_Wd) (S : ih_Sg) (s : Nat) (hs : s < 24) : ih_Ci l yX8_runs wsX8_runs 1 w ih_shM [.int (nI s), .int (nI 6)] S (fun r S' => r = nI (ih_rn s 6) ∧ S' = S) := by
  refine ih_bodyi (ret := some .int) rfl rfl (Nat.le_of_ble_eq_true rfl) ?_
  intro x A hA C
  have C : ih_Ok x w A cX8_runs 3 RX8 wsX8_runs (ih_rm 1) (some .int) := C
  show ih_Mw x w ih_shM A (ih_Qi x w ih_shM A _) 3 0 0 0 [(0, .int (nI s)), (1, .int (nI 6))] [] S
  refine s_iload_n C 0 dX8_runs_0 rfl ?_
  refine s_bipush (v := nI 7) C dX8_runs_1 (by decide) ?_
  refine s_iand C dX8_runs_3 ?_
  refine s_istore_n (lv' := [(2, .int ((nI (s)) &&& (nI (7)))), (0, .int (nI s)), (1, .int (nI 6))]) C dX8_runs_4 rfl (by decide) rfl ?_
  refine s_iload_n C 2 dX8_runs_5 rfl ?_
  refine s_tableIn (off := 73) C 79 dX8_runs_6 (by decide) (by decide) (by decide) (by decide) ?_
  refine s_iload_n C 1 dX8_runs_79 rfl ?_
  refine s_bipush (v := nI 8) C dX8_runs_80 (by decide) ?_
  refine s_idivN C dX8_runs_82 (by omega) (by omega) (by omega) ?_
  refine s_iconst (v := nI 2) C dX8_runs_83 (by decide) ?_
  refine s_icmp_neN 91 C dX8_runs_84 (by decide) (by omega) (by omega) (fun h84 => ?_) (fun h84 => ?_)
  · refine s_iload_n C 0 dX8_runs_91 rfl ?_
    refine s_iconst (v := nI 2) C dX8_runs_92 (by decide) ?_
    refine s_ishr C dX8_runs_93 ?_
    exact s_ireturn C hA dX8_runs_94 ⟨(by revert h84; revert hs; revert s; decide +kernel), rfl⟩
  · refine s_iconst (v := nI 0) C dX8_runs_87 (by decide) ?_
    refine s_goto C 94 dX8_runs_88 (by decide) ?_
    exact s_ireturn C hA dX8_runs_94 ⟨(by revert h84; revert hs; revert s; decide +kernel), rfl⟩

set_option maxHeartbeats 4000000 in
set_option maxRecDepth 100000 in
theorem c_X8_runs_7 (l : Launch) (w : ih_Wd) (S : ih_Sg) (s : Nat) (hs : s < 24) : ih_Ci l yX8_runs wsX8_runs 1 w ih_shM [.int (nI s), .int (nI 7)] S (fun r S' => r = nI (ih_rn s 7) ∧ S' = S) := by
  refine ih_bodyi (ret := some .int) rfl rfl (Nat.le_of_ble_eq_true rfl) ?_
  intro x A hA C
  have C : ih_Ok x w A cX8_runs 3 RX8 wsX8_runs (ih_rm 1) (some .int) := C
  show ih_Mw x w ih_shM A (ih_Qi x w ih_shM A _) 3 0 0 0 [(0, .int (nI s)), (1, .int (nI 7))] [] S
  refine s_iload_n C 0 dX8_runs_0 rfl ?_
  refine s_bipush (v := nI 7) C dX8_runs_1 (by decide) ?_
  refine s_iand C dX8_runs_3 ?_
  refine s_istore_n (lv' := [(2, .int ((nI (s)) &&& (nI (7)))), (0, .int (nI s)), (1, .int (nI 7))]) C dX8_runs_4 rfl (by decide) rfl ?_
  refine s_iload_n C 2 dX8_runs_5 rfl ?_
  refine s_tableOut C 95 dX8_runs_6 (by decide) (by decide) ?_
  refine s_iconst (v := nI 0) C dX8_runs_95 (by decide) ?_
  exact s_ireturn C hA dX8_runs_96 ⟨(by revert hs; revert s; decide +kernel), rfl⟩

set_option maxHeartbeats 4000000 in
set_option maxRecDepth 100000 in
theorem c_X8_runs_8 (l : Launch) (w : ih_Wd) (S : ih_Sg) (s : Nat) (hs : s < 24) : ih_Ci l yX8_runs wsX8_runs 1 w ih_shM [.int (nI s), .int (nI 8)] S (fun r S' => r = nI (ih_rn s 8) ∧ S' = S) := by
  refine ih_bodyi (ret := some .int) rfl rfl (Nat.le_of_ble_eq_true rfl) ?_
  intro x A hA C
  have C : ih_Ok x w A cX8_runs 3 RX8 wsX8_runs (ih_rm 1) (some .int) := C
  show ih_Mw x w ih_shM A (ih_Qi x w ih_shM A _) 3 0 0 0 [(0, .int (nI s)), (1, .int (nI 8))] [] S
  refine s_iload_n C 0 dX8_runs_0 rfl ?_
  refine s_bipush (v := nI 7) C dX8_runs_1 (by decide) ?_
  refine s_iand C dX8_runs_3 ?_
  refine s_istore_n (lv' := [(2, .int ((nI (s)) &&& (nI (7)))), (0, .int (nI s)), (1, .int (nI 8))]) C dX8_runs_4 rfl (by decide) rfl ?_
  refine s_iload_n C 2 dX8_runs_5 rfl ?_
  refine s_tableOut C 95 dX8_runs_6 (by decide) (by decide) ?_
  refine s_iconst (v := nI 0) C dX8_runs_95 (by decide) ?_
  exact s_ireturn C hA dX8_runs_96 ⟨(by revert hs; revert s; decide +kernel), rfl⟩

theorem c_X8_runs (l : Launch) (w : ih_Wd) (S : ih_Sg) (s a : Nat) (hs : s < 24) (ha : a < 9) : ih_Ci l yX8_runs wsX8_runs 1 w ih_shM [.int (nI s), .int (nI a)] S (fun r S' => r = nI (ih_rn s a) ∧ S' = S) := by
  rcases ih_a9 ha with rfl | rfl | rfl | rfl | rfl | rfl | rfl | rfl | rfl
  · exact c_X8_runs_0 l w S s hs
  · exact c_X8_runs_1 l w S s hs
  · exact c_X8_runs_2 l w S s hs
  · exact c_X8_runs_3 l w S s hs
  · exact c_X8_runs_4 l w S s hs
  · exact c_X8_runs_5 l w S s hs
  · exact c_X8_runs_6 l w S s hs
  · exact c_X8_runs_7 l w S s hs
  · exact c_X8_runs_8 l w S s hs
