/-! the class: its smallest methods -/
def ih_fa (S : ih_Sg) (k n : Nat) (v : Int32) : ih_Sg := (fun a j => if a = k ∧ j < n then v else S.1 a j, S.2.1, S.2.2)
def ih_fl2 (S : ih_Sg) (k n : Nat) (v : Int64) : ih_Sg := (S.1, fun a j => if a = k ∧ j < n then v else S.2.1 a j, S.2.2)
theorem ih_fa_0 {S : ih_Sg} {k : Nat} {v : Int32} : ih_fa S k 0 v = S := by
  unfold ih_fa
  refine Prod.ext ?_ rfl
  funext a j
  exact if_neg (by omega)
theorem ih_fa_s {S : ih_Sg} {k n : Nat} {v : Int32} : ih_sI (ih_fa S k n v) k n v = ih_fa S k (n + 1) v := by
  unfold ih_fa ih_sI ih_u2
  refine Prod.ext ?_ rfl
  funext a j
  dsimp only
  by_cases h : a = k ∧ j = n
  · rw [if_pos h, if_pos (by omega)]
  · rw [if_neg h]
    by_cases h2 : a = k ∧ j < n
    · rw [if_pos h2, if_pos (by omega)]
    · rw [if_neg h2, if_neg (by omega)]
theorem ih_fl2_0 {S : ih_Sg} {k : Nat} {v : Int64} : ih_fl2 S k 0 v = S := by
  unfold ih_fl2
  refine Prod.ext rfl (Prod.ext ?_ rfl)
  funext a j
  exact if_neg (by omega)
theorem ih_fl2_s {S : ih_Sg} {k n : Nat} {v : Int64} : ih_sJ (ih_fl2 S k n v) k n v = ih_fl2 S k (n + 1) v := by
  unfold ih_fl2 ih_sJ ih_u2
  refine Prod.ext rfl (Prod.ext ?_ rfl)
  funext a j
  dsimp only
  by_cases h : a = k ∧ j = n
  · rw [if_pos h, if_pos (by omega)]
  · rw [if_neg h]
    by_cases h2 : a = k ∧ j < n
    · rw [if_pos h2, if_pos (by omega)]
    · rw [if_neg h2, if_neg (by omega)]
theorem fb_subI_ {x y : Int32} (h1 : -2147483648 ≤ x.toInt - y.toInt) (h2 : x.toInt - y.toInt < 2147483648) : (x - y).toInt = x.toInt - y.toInt := by
  rw [Int32.toInt_sub]
  exact Int.bmod_eq_of_le (by omega) (by omega)
set_option maxHeartbeats 4000000 in
set_option maxRecDepth 100000 in
theorem c_X7_isSheet (l : Launch) (w : ih_Wd) (S : ih_Sg) (s : Int32) : ih_Ci l yX7_isSheet wsX7_isSheet 1 w ih_shX [.int s] S (fun r S' => r = (if 0 ≤ s.toInt ∧ s.toInt ≤ 7 then nI 1 else nI 0) ∧ S' = S) := by
  refine ih_bodyi (ret := some .boolean) rfl rfl (Nat.le_of_ble_eq_true rfl) ?_
  intro x A hA C
  have C : ih_Ok x w A cX7_isSheet 1 RX7 wsX7_isSheet (ih_rm 1) (some .boolean) := C
  show ih_Mw x w ih_shX A (ih_Qi x w ih_shX A _) 1 0 0 0 [(0, .int s)] [] S
  refine s_iload_n C 0 dX7_isSheet_0 rfl ?_
  refine s_iconst (v := nI 0) C dX7_isSheet_1 (by decide) ?_
  refine s_bipush (v := nI 7) C dX7_isSheet_2 (by decide) ?_
  refine s_callSi 3 C (c_X7_within _ w _ _ _ _ _) gX7_isSheet_X7_within rfl (by decide +kernel) (by decide) (by decide) rfl rfl (Nat.le_of_ble_eq_true rfl) dX7_isSheet_4 ?_
  rintro r S2 ⟨hr, hSS⟩
  obtain rfl := hSS.symm
  rw [ih_t (by decide), ih_t (by decide)] at hr
  exact s_zreturn C hA dX7_isSheet_7 (by rw [hr]; split <;> decide) ⟨hr, rfl⟩

set_option maxHeartbeats 4000000 in
set_option maxRecDepth 100000 in
theorem c_X7_isChance (l : Launch) (w : ih_Wd) (S : ih_Sg) (s : Int32) : ih_Ci l yX7_isChance wsX7_isChance 1 w ih_shX [.int s] S (fun r S' => r = (if 0 ≤ s.toInt ∧ s.toInt ≤ 1000 then nI 1 else nI 0) ∧ S' = S) := by
  refine ih_bodyi (ret := some .boolean) rfl rfl (Nat.le_of_ble_eq_true rfl) ?_
  intro x A hA C
  have C : ih_Ok x w A cX7_isChance 1 RX7 wsX7_isChance (ih_rm 1) (some .boolean) := C
  show ih_Mw x w ih_shX A (ih_Qi x w ih_shX A _) 1 0 0 0 [(0, .int s)] [] S
  refine s_iload_n C 0 dX7_isChance_0 rfl ?_
  refine s_iconst (v := nI 0) C dX7_isChance_1 (by decide) ?_
  refine s_sipush (v := nI 1000) C dX7_isChance_2 (by decide) ?_
  refine s_callSi 3 C (c_X7_within _ w _ _ _ _ _) gX7_isChance_X7_within rfl (by decide +kernel) (by decide) (by decide) rfl rfl (Nat.le_of_ble_eq_true rfl) dX7_isChance_5 ?_
  rintro r S2 ⟨hr, hSS⟩
  obtain rfl := hSS.symm
  rw [ih_t (by decide), ih_t (by decide)] at hr
  exact s_zreturn C hA dX7_isChance_8 (by rw [hr]; split <;> decide) ⟨hr, rfl⟩

set_option maxHeartbeats 4000000 in
set_option maxRecDepth 100000 in
theorem c_X7_isStriker (l : Launch) (w : ih_Wd) (S : ih_Sg) (c : Nat) (hc : c ≤ 12) (hS : S.1 0 2 = nI c) (k : Int32) : ih_Ci l yX7_isStriker wsX7_isStriker 1 w ih_shX [.ref (w.2.2 0), .int k] S (fun r S' => r = (if 0 ≤ k.toInt ∧ k.toInt < c then nI 1 else nI 0) ∧ S' = S) := by
  refine ih_bodyi (ret := some .boolean) rfl rfl (Nat.le_of_ble_eq_true rfl) ?_
  intro x A hA C
  have C : ih_Ok x w A cX7_isStriker 2 RX7 wsX7_isStriker (ih_rm 1) (some .boolean) := C
  show ih_Mw x w ih_shX A (ih_Qi x w ih_shX A _) 2 0 0 0 [(0, .ref (w.2.2 0)), (1, .int k)] [] S
  refine s_iload_n C 1 dX7_isStriker_0 rfl ?_
  refine s_iconst (v := nI 0) C dX7_isStriker_1 (by decide) ?_
  refine s_aload_n C 0 dX7_isStriker_2 rfl ?_
  refine s_getI C 7 2 (by decide) rfl (by decide) rfl (fun _ h => List.mem_cons_of_mem _ (List.mem_append_right _ h)) (by decide) rfl (by decide +kernel) dX7_isStriker_3 ?_
  refine s_toe hS ?_
  refine s_iconst (v := nI 1) C dX7_isStriker_6 (by decide) ?_
  refine s_isub C dX7_isStriker_7  ?_
  refine s_callSi 3 C (c_X7_within _ w _ _ _ _ _) gX7_isStriker_X7_within rfl (by decide +kernel) (by decide) (by decide) rfl rfl (Nat.le_of_ble_eq_true rfl) dX7_isStriker_8 ?_
  rintro r S2 ⟨hr, hSS⟩
  obtain rfl := hSS.symm
  rw [ih_t (by decide), ih_m1 (by omega)] at hr
  exact s_zreturn C hA dX7_isStriker_11 (by rw [hr]; split <;> decide) ⟨ih_bc hr (by omega), rfl⟩

set_option maxHeartbeats 4000000 in
set_option maxRecDepth 100000 in
theorem c_X7_isPlace (l : Launch) (w : ih_Wd) (S : ih_Sg) (hp : ih_PX S) (c : Nat) (hc : c ≤ 12) (hS : S.1 46 3 = nI c) (k : Int32) : ih_Ci l yX7_isPlace wsX7_isPlace 1 w ih_shX [.ref (w.2.2 0), .int k] S (fun r S' => r = (if 0 ≤ k.toInt ∧ k.toInt < c then nI 1 else nI 0) ∧ S' = S) := by
  refine ih_bodyi (ret := some .boolean) rfl rfl (Nat.le_of_ble_eq_true rfl) ?_
  intro x A hA C
  have C : ih_Ok x w A cX7_isPlace 2 RX7 wsX7_isPlace (ih_rm 1) (some .boolean) := C
  show ih_Mw x w ih_shX A (ih_Qi x w ih_shX A _) 2 0 0 0 [(0, .ref (w.2.2 0)), (1, .int k)] [] S
  refine s_iload_n C 1 dX7_isPlace_0 rfl ?_
  refine s_iconst (v := nI 0) C dX7_isPlace_1 (by decide) ?_
  refine s_aload_n C 0 dX7_isPlace_2 rfl ?_
  refine s_getR C 7 4 (hp _ _ _ rfl) (by decide) rfl (by decide) rfl (fun _ h => List.mem_cons_of_mem _ (List.mem_append_left _ (List.mem_append_right _ h))) (by decide) rfl (by decide +kernel) dX7_isPlace_3 ?_
  refine s_getI C 2 3 (by decide) rfl (by decide) rfl (fun _ h => List.mem_cons_of_mem _ (List.mem_append_right _ h)) (by decide) rfl (by decide +kernel) dX7_isPlace_6 ?_
  refine s_toe hS ?_
  refine s_iconst (v := nI 1) C dX7_isPlace_9 (by decide) ?_
  refine s_isub C dX7_isPlace_10  ?_
  refine s_callSi 3 C (c_X7_within _ w _ _ _ _ _) gX7_isPlace_X7_within rfl (by decide +kernel) (by decide) (by decide) rfl rfl (Nat.le_of_ble_eq_true rfl) dX7_isPlace_11 ?_
  rintro r S2 ⟨hr, hSS⟩
  obtain rfl := hSS.symm
  rw [ih_t (by decide), ih_m1 (by omega)] at hr
  exact s_zreturn C hA dX7_isPlace_14 (by rw [hr]; split <;> decide) ⟨ih_bc hr (by omega), rfl⟩

set_option maxHeartbeats 4000000 in
set_option maxRecDepth 100000 in
theorem c_X7_found (l : Launch) (w : ih_Wd) (S : ih_Sg) (n : Int32) : ih_Ci l yX7_found wsX7_found 0 w ih_shX [.ref (w.2.2 0), .int n] S (fun r S' => r = (-1000010) - n ∧ S' = ih_sI S 0 8 n) := by
  refine ih_bodyi (ret := some .int) rfl rfl (Nat.le_of_ble_eq_true rfl) ?_
  intro x A hA C
  have C : ih_Ok x w A cX7_found 2 RX7 wsX7_found (ih_rm 0) (some .int) := C
  show ih_Mw x w ih_shX A (ih_Qi x w ih_shX A _) 2 0 0 0 [(0, .ref (w.2.2 0)), (1, .int n)] [] S
  refine s_aload_n C 0 dX7_found_0 rfl ?_
  refine s_iload_n C 1 dX7_found_1 rfl ?_
  refine s_putI (ty := .int) C 7 8 tyX7 tyX7_ok nmX7 (by decide) rfl (by decide) rfl (fun _ h => List.mem_cons_of_mem _ (List.mem_append_right _ h)) (by decide) rfl (by decide +kernel) rfl (by decide +kernel) rfl rfl dX7_found_2 ?_
  refine s_ldc (v := (-1000010)) C (by decide +kernel) dX7_found_5 ?_
  refine s_iload_n C 1 dX7_found_7 rfl ?_
  refine s_isub C dX7_found_8  ?_
  exact s_ireturn C hA dX7_found_9 ⟨rfl, rfl⟩

set_option maxHeartbeats 4000000 in
set_option maxRecDepth 100000 in
theorem c_X7_fine (l : Launch) (w : ih_Wd) (S : ih_Sg) (a : Int32) : ih_Ci l yX7_fine wsX7_fine 0 w ih_shX [.ref (w.2.2 0), .int a] S (fun r S' => r = a ∧ S' = ih_sI S 0 8 (nI 0)) := by
  refine ih_bodyi (ret := some .int) rfl rfl (Nat.le_of_ble_eq_true rfl) ?_
  intro x A hA C
  have C : ih_Ok x w A cX7_fine 2 RX7 wsX7_fine (ih_rm 0) (some .int) := C
  show ih_Mw x w ih_shX A (ih_Qi x w ih_shX A _) 2 0 0 0 [(0, .ref (w.2.2 0)), (1, .int a)] [] S
  refine s_aload_n C 0 dX7_fine_0 rfl ?_
  refine s_iconst (v := nI 0) C dX7_fine_1 (by decide) ?_
  refine s_putI (ty := .int) C 7 8 tyX7 tyX7_ok nmX7 (by decide) rfl (by decide) rfl (fun _ h => List.mem_cons_of_mem _ (List.mem_append_right _ h)) (by decide) rfl (by decide +kernel) rfl (by decide +kernel) rfl rfl dX7_fine_2 ?_
  refine s_iload_n C 1 dX7_fine_5 rfl ?_
  exact s_ireturn C hA dX7_fine_6 ⟨rfl, rfl⟩

set_option maxHeartbeats 4000000 in
set_option maxRecDepth 100000 in
theorem c_X7_admitted (l : Launch) (w : ih_Wd) (S : ih_Sg) (c : Nat) (hS : S.1 0 2 = nI c) : ih_Ci l yX7_admitted wsX7_admitted 0 w ih_shX [.ref (w.2.2 0)] S (fun r S' => r = nI c ∧ S' = ih_sI S 0 2 (nI (c + 1))) := by
  refine ih_bodyi (ret := some .int) rfl rfl (Nat.le_of_ble_eq_true rfl) ?_
  intro x A hA C
  have C : ih_Ok x w A cX7_admitted 2 RX7 wsX7_admitted (ih_rm 0) (some .int) := C
  show ih_Mw x w ih_shX A (ih_Qi x w ih_shX A _) 2 0 0 0 [(0, .ref (w.2.2 0))] [] S
  refine s_aload_n C 0 dX7_admitted_0 rfl ?_
  refine s_getI C 7 2 (by decide) rfl (by decide) rfl (fun _ h => List.mem_cons_of_mem _ (List.mem_append_right _ h)) (by decide) rfl (by decide +kernel) dX7_admitted_1 ?_
  refine s_toe hS ?_
  refine s_istore_n (lv' := [(1, .int (nI c)), (0, .ref (w.2.2 0))]) C dX7_admitted_4 rfl (by decide) rfl ?_
  refine s_aload_n C 1 dX7_admitted_5 rfl ?_
  refine s_dup C dX7_admitted_6 rfl ?_
  refine s_getI C 7 2 (by decide) rfl (by decide) rfl (fun _ h => List.mem_cons_of_mem _ (List.mem_append_right _ h)) (by decide) rfl (by decide +kernel) dX7_admitted_7 ?_
  refine s_toe hS ?_
  refine s_iconst (v := nI 1) C dX7_admitted_10 (by decide) ?_
  refine s_iaddN C dX7_admitted_11 ?_
  refine s_putI (ty := .int) C 7 2 tyX7 tyX7_ok nmX7 (by decide) rfl (by decide) rfl (fun _ h => List.mem_cons_of_mem _ (List.mem_append_right _ h)) (by decide) rfl (by decide +kernel) rfl (by decide +kernel) rfl rfl dX7_admitted_12 ?_
  refine s_iload_n C 0 dX7_admitted_15 rfl ?_
  exact s_ireturn C hA dX7_admitted_16 ⟨rfl, rfl⟩

theorem ih_zn {z : Nat} {n : Int32} (hz : z ≤ 60) (hn : 0 ≤ n.toInt) : (nI z - n).toInt = (z : Int) - n.toInt := by
  have h1 := ih_rng n
  rw [fb_subI_ (by rw [ih_t (by omega)]; omega) (by rw [ih_t (by omega)]; omega), ih_t (by omega)]
set_option maxHeartbeats 4000000 in
set_option maxRecDepth 100000 in
theorem c_X5_holds (l : Launch) (w : ih_Wd) (S : ih_Sg) (s z : Nat) (hs : s < 8) (hz : z ≤ 60) (hS : S.1 (2 + 2 * s) 3 = nI z) (a n : Int32) : ih_Ci l yX5_holds wsX5_holds 0 w ih_shX [.ref (w.2.2 (2 + 2 * s)), .int a, .int n] S (fun r S' => r = (if 0 ≤ a.toInt ∧ 0 ≤ n.toInt ∧ a.toInt + n.toInt ≤ z then nI 1 else nI 0) ∧ S' = S) := by
  refine ih_bodyi (ret := some .boolean) rfl rfl (Nat.le_of_ble_eq_true rfl) ?_
  intro x A hA C
  have C : ih_Ok x w A cX5_holds 3 RX5 wsX5_holds (ih_rm 0) (some .boolean) := C
  show ih_Mw x w ih_shX A (ih_Qi x w ih_shX A _) 3 0 0 0 [(0, .ref (w.2.2 (2 + 2 * s))), (1, .int a), (2, .int n)] [] S
  refine s_iload_n C 1 dX5_holds_0 rfl ?_
  refine s_if_lt C 22 dX5_holds_1 (by decide) (fun h1 => ?_) (fun h1 => ?_)
  · simp only [ih_lei, ih_lti, ih_t0] at h1
    refine s_iconst (v := nI 0) C dX5_holds_22 (by decide) ?_
    exact s_zreturn C hA dX5_holds_23 (by decide) ⟨by first | rw [if_pos (by omega)] | rw [if_neg (by omega)], rfl⟩
  · simp only [ih_lei, ih_lti, ih_t0] at h1
    refine s_iload_n C 2 dX5_holds_4 rfl ?_
    refine s_if_lt C 22 dX5_holds_5 (by decide) (fun h5 => ?_) (fun h5 => ?_)
    · simp only [ih_lei, ih_lti, ih_t0] at h5
      refine s_iconst (v := nI 0) C dX5_holds_22 (by decide) ?_
      exact s_zreturn C hA dX5_holds_23 (by decide) ⟨by first | rw [if_pos (by omega)] | rw [if_neg (by omega)], rfl⟩
    · simp only [ih_lei, ih_lti, ih_t0] at h5
      have hzn : (nI z - n).toInt = z - n.toInt := ih_zn hz (by omega)
      refine s_iload_n C 1 dX5_holds_8 rfl ?_
      refine s_aload_n C 0 dX5_holds_9 rfl ?_
      refine s_getI C 5 3 (by show 2 + 2 * s < 62; omega) (ih_kX_sh hs) (by decide) rfl (fun _ h => List.mem_cons_of_mem _ (List.mem_append_right _ h)) (by decide) rfl (by decide +kernel) dX5_holds_10 ?_
      refine s_toe hS ?_
      refine s_iload_n C 2 dX5_holds_13 rfl ?_
      refine s_isub C dX5_holds_14  ?_
      refine s_icmp_gt C 22 dX5_holds_15 (by decide) (fun h15 => ?_) (fun h15 => ?_)
      · simp only [ih_lei, ih_lti, ih_t0] at h15
        refine s_iconst (v := nI 0) C dX5_holds_22 (by decide) ?_
        exact s_zreturn C hA dX5_holds_23 (by decide) ⟨by first | rw [if_pos (by omega)] | rw [if_neg (by omega)], rfl⟩
      · simp only [ih_lei, ih_lti, ih_t0] at h15
        refine s_iconst (v := nI 1) C dX5_holds_18 (by decide) ?_
        refine s_goto C 23 dX5_holds_19 (by decide) ?_
        exact s_zreturn C hA dX5_holds_23 (by decide) ⟨by first | rw [if_pos (by omega)] | rw [if_neg (by omega)], rfl⟩

set_option maxHeartbeats 4000000 in
set_option maxRecDepth 100000 in
theorem c_X5_cutToLane (l : Launch) (w : ih_Wd) (S : ih_Sg) (s : Nat) (hs : s < 8) (v : Int32) : ih_Ci l yX5_cutToLane wsX5_cutToLane 0 w ih_shX [.ref (w.2.2 (2 + 2 * s)), .int v] S (fun r S' => r = ih_cut (S.1 (2 + 2 * s) 2) v ∧ S' = S) := by
  refine ih_bodyi (ret := some .int) rfl rfl (Nat.le_of_ble_eq_true rfl) ?_
  intro x A hA C
  have C : ih_Ok x w A cX5_cutToLane 2 RX5 wsX5_cutToLane (ih_rm 0) (some .int) := C
  show ih_Mw x w ih_shX A (ih_Qi x w ih_shX A _) 2 0 0 0 [(0, .ref (w.2.2 (2 + 2 * s))), (1, .int v)] [] S
  refine s_aload_n C 0 dX5_cutToLane_0 rfl ?_
  refine s_getI C 5 2 (by show 2 + 2 * s < 62; omega) (ih_kX_sh hs) (by decide) rfl (fun _ h => List.mem_cons_of_mem _ (List.mem_append_right _ h)) (by decide) rfl (by decide +kernel) dX5_cutToLane_1 ?_
  refine s_if_ne C 10 dX5_cutToLane_4 (by decide) (fun h4 => ?_) (fun h4 => ?_)
  · refine s_aload_n C 0 dX5_cutToLane_10 rfl ?_
    refine s_getI C 5 2 (by show 2 + 2 * s < 62; omega) (ih_kX_sh hs) (by decide) rfl (fun _ h => List.mem_cons_of_mem _ (List.mem_append_right _ h)) (by decide) rfl (by decide +kernel) dX5_cutToLane_11 ?_
    refine s_iconst (v := nI 1) C dX5_cutToLane_14 (by decide) ?_
    refine s_icmp_ne C 23 dX5_cutToLane_15 (by decide) (fun h15 => ?_) (fun h15 => ?_)
    · refine s_iload_n C 1 dX5_cutToLane_23 rfl ?_
      exact s_ireturn C hA dX5_cutToLane_24 ⟨by rw [ih_cut, if_neg h4]; first | rw [if_pos h15] | rw [if_neg h15], rfl⟩
    · refine s_iload_n C 1 dX5_cutToLane_18 rfl ?_
      refine s_i2s C dX5_cutToLane_19 ?_
      refine s_goto C 24 dX5_cutToLane_20 (by decide) ?_
      exact s_ireturn C hA dX5_cutToLane_24 ⟨by rw [ih_cut, if_neg h4]; first | rw [if_pos h15] | rw [if_neg h15], rfl⟩
  · refine s_iload_n C 1 dX5_cutToLane_7 rfl ?_
    refine s_i2b C dX5_cutToLane_8 ?_
    exact s_ireturn C hA dX5_cutToLane_9 ⟨by rw [ih_cut, if_pos h4], rfl⟩

set_option maxHeartbeats 4000000 in
set_option maxRecDepth 100000 in
theorem c_fillI (l : Launch) (w : ih_Wd) (Sb : ih_Sg) (k n : Nat) (hk : k < 62) (hkd : ih_shX.1 k = 9) (hn : ih_shX.2.1 k = n) (hn2 : n < 2147483648) (v : Int32) : ih_Cv l yJ7_fill_53178 wsJ7_fill_53178 0 w ih_shX [.ref (w.2.2 k), .int v] Sb (fun S' => S' = ih_fa Sb k n v) := by
  refine ih_bodyv (ret := none) rfl rfl (Nat.le_of_ble_eq_true rfl) ?_
  intro x A hA C
  have C : ih_Ok x w A cJ7_fill_53178 4 RJ7 wsJ7_fill_53178 (ih_rm 0) (none) := C
  show ih_Mw x w ih_shX A (ih_Qv x w ih_shX A _) 4 0 0 0 [(0, .ref (w.2.2 k)), (1, .int v)] [] Sb
  obtain ⟨Q, hQ⟩ : ∃ Q, Q = ih_Qv x w ih_shX A (fun S' => S' = ih_fa Sb k n v) := ⟨_, rfl⟩
  rw [show ih_Qv x w ih_shX A _ = Q from hQ.symm]
  refine s_iconst (v := nI 0) C dJ7_fill_53178_0 (by decide) ?_
  refine s_istore_n (lv' := [(2, .int (nI 0)), (0, .ref (w.2.2 k)), (1, .int v)]) C dJ7_fill_53178_1 rfl (by decide) rfl ?_
  refine s_aload_n C 1 dJ7_fill_53178_2 rfl ?_
  refine s_alen C 0 (by rw [hn]) hk (Or.inl ⟨hkd, rfl⟩) dJ7_fill_53178_3 ?_
  refine s_istore_n (lv' := [(3, .int (nI n)), (2, .int (nI 0)), (0, .ref (w.2.2 k)), (1, .int v)]) C dJ7_fill_53178_4 rfl (by decide) rfl ?_
  have hx_5 : ∀ S, S = ih_fa Sb k (n) v → ih_Mw x w ih_shX A Q 4 0 0 20 [(0, .ref (w.2.2 k))] [] S := by
    intro S hE
    rw [hQ]
    exact s_vreturn C hA dJ7_fill_53178_20 hE
  have loop_5 : ∀ (fu j : Nat), j + fu = n → ∀ S, S = ih_fa Sb k (j) v → ih_Mw x w ih_shX A Q 4 0 0 5 [(0, .ref (w.2.2 k)), (1, .int v), (2, .int (nI j)), (3, .int (nI n))] [] S := by
    intro fu
    induction fu with
    | zero =>
      intro j hje S hE
      have hj0 : j = n := by omega
      refine s_iload_n C 2 dJ7_fill_53178_5 rfl ?_
      refine s_iload_n C 3 dJ7_fill_53178_6 rfl ?_
      refine s_icmp_geN 20 C dJ7_fill_53178_7 (by decide) (by omega) (by omega) (fun h7 => ?_) (fun h7 => ?_)
      · refine s_perm [0] rfl ?_
        subst hj0
        exact hx_5 _ hE
      · exfalso; omega
    | succ fu ih_5 =>
      intro j hje S hE
      have hjl : j < n := by omega
      refine s_iload_n C 2 dJ7_fill_53178_5 rfl ?_
      refine s_iload_n C 3 dJ7_fill_53178_6 rfl ?_
      refine s_icmp_geN 20 C dJ7_fill_53178_7 (by decide) (by omega) (by omega) (fun h7 => ?_) (fun h7 => ?_)
      · exfalso; omega
      · refine s_aload_n C 0 dJ7_fill_53178_10 rfl ?_
        refine s_iload_n C 2 dJ7_fill_53178_11 rfl ?_
        refine s_iload_n C 1 dJ7_fill_53178_12 rfl ?_
        refine s_iastore C n (j) rfl hn (by omega) hn2 hk hkd dJ7_fill_53178_13 ?_
        refine s_iinc (u := nI (j + 1)) (lv' := [(2, .int (nI (j + 1))), (0, .ref (w.2.2 k)), (1, .int v), (3, .int (nI n))]) C 2 dJ7_fill_53178_14 rfl (ih_incN (by decide)) (by decide) rfl ?_
        refine s_goto C 5 dJ7_fill_53178_17 (by decide) ?_
        refine s_perm [1, 2, 0, 3] rfl ?_
        exact ih_5 (j + 1) (by omega) _ (by rw [hE]; exact ih_fa_s)
  refine s_perm [2, 3, 1, 0] rfl ?_
  exact loop_5 n 0 (by omega) _ ih_fa_0.symm

