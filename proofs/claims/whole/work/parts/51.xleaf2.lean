def ih_rest (f : Nat → Int32) : Nat → Int32
  | 0 => nI 1000
  | n + 1 => ih_rest f n - f (n + 1)
def ih_kdc (c : Nat → Nat) : Nat := if c 0 ≤ 650 then (if 60 ≤ c 4 + c 5 then 2 else 1) else if 700 ≤ c 6 then 3 else 0
theorem ih_kdc_lt (c : Nat → Nat) : ih_kdc c < 4 := by
  unfold ih_kdc
  split
  · split <;> decide
  · split <;> decide
theorem ih_kind_c (T : ih_TT) (k : Nat) : ih_kind T k = ih_kdc (ih_ch T k) := rfl
set_option maxHeartbeats 4000000 in
set_option maxRecDepth 100000 in
theorem c_fillL (l : Launch) (w : ih_Wd) (Sb : ih_Sg) (k n : Nat) (hk : k < 62) (hkd : ih_shX.1 k = 10) (hn : ih_shX.2.1 k = n) (hn2 : n < 2147483648) (v : Int64) : ih_Cv l yJ7_fill_d0a16 wsJ7_fill_d0a16 0 w ih_shX [.ref (w.2.2 k), .long (v)] Sb (fun S' => S' = ih_fl2 Sb k n v) := by
  refine ih_bodyv (ret := none) rfl rfl (Nat.le_of_ble_eq_true rfl) ?_
  intro x A hA C
  have C : ih_Ok x w A cJ7_fill_d0a16 5 RJ7 wsJ7_fill_d0a16 (ih_rm 0) (none) := C
  show ih_Mw x w ih_shX A (ih_Qv x w ih_shX A _) 5 0 0 0 [(0, .ref (w.2.2 k)), (1, .long (v))] [] Sb
  obtain ⟨Q, hQ⟩ : ∃ Q, Q = ih_Qv x w ih_shX A (fun S' => S' = ih_fl2 Sb k n v) := ⟨_, rfl⟩
  rw [show ih_Qv x w ih_shX A _ = Q from hQ.symm]
  refine s_iconst (v := nI 0) C dJ7_fill_d0a16_0 (by decide) ?_
  refine s_istore_n (lv' := [(3, .int (nI 0)), (0, .ref (w.2.2 k)), (1, .long (v))]) C dJ7_fill_d0a16_1 rfl (by decide) rfl ?_
  refine s_aload_n C 1 dJ7_fill_d0a16_2 rfl ?_
  refine s_alen C 1 (by rw [hn]) hk (Or.inr ⟨hkd, rfl⟩) dJ7_fill_d0a16_3 ?_
  refine s_istore (lv' := [(4, .int (nI n)), (3, .int (nI 0)), (0, .ref (w.2.2 k)), (1, .long (v))]) C dJ7_fill_d0a16_4 (by decide) rfl ?_
  have hx_6 : ∀ S, S = ih_fl2 Sb k (n) v → ih_Mw x w ih_shX A Q 5 0 0 22 [(0, .ref (w.2.2 k))] [] S := by
    intro S hE
    rw [hQ]
    exact s_vreturn C hA dJ7_fill_d0a16_22 hE
  have loop_6 : ∀ (fu j : Nat), j + fu = n → ∀ S, S = ih_fl2 Sb k (j) v → ih_Mw x w ih_shX A Q 5 0 0 6 [(0, .ref (w.2.2 k)), (1, .long (v)), (3, .int (nI j)), (4, .int (nI n))] [] S := by
    intro fu
    induction fu with
    | zero =>
      intro j hje S hE
      have hj0 : j = n := by omega
      refine s_iload_n C 2 dJ7_fill_d0a16_6 rfl ?_
      refine s_iload C 3 dJ7_fill_d0a16_7 rfl ?_
      refine s_icmp_geN 22 C dJ7_fill_d0a16_9 (by decide) (by omega) (by omega) (fun h9 => ?_) (fun h9 => ?_)
      · refine s_perm [0] rfl ?_
        subst hj0
        exact hx_6 _ hE
      · exfalso; omega
    | succ fu ih_6 =>
      intro j hje S hE
      have hjl : j < n := by omega
      refine s_iload_n C 2 dJ7_fill_d0a16_6 rfl ?_
      refine s_iload C 3 dJ7_fill_d0a16_7 rfl ?_
      refine s_icmp_geN 22 C dJ7_fill_d0a16_9 (by decide) (by omega) (by omega) (fun h9 => ?_) (fun h9 => ?_)
      · exfalso; omega
      · refine s_aload_n C 0 dJ7_fill_d0a16_12 rfl ?_
        refine s_iload_n C 2 dJ7_fill_d0a16_13 rfl ?_
        refine s_lload_n C 1 dJ7_fill_d0a16_14 rfl ?_
        refine s_lastore C n (j) rfl hn (by omega) hn2 hk hkd dJ7_fill_d0a16_15 ?_
        refine s_iinc (u := nI (j + 1)) (lv' := [(3, .int (nI (j + 1))), (0, .ref (w.2.2 k)), (1, .long (v)), (4, .int (nI n))]) C 2 dJ7_fill_d0a16_16 rfl (ih_incN (by decide)) (by decide) rfl ?_
        refine s_goto C 6 dJ7_fill_d0a16_19 (by decide) ?_
        refine s_perm [1, 2, 0, 3] rfl ?_
        exact ih_6 (j + 1) (by omega) _ (by rw [hE]; exact ih_fl2_s)
  refine s_perm [2, 3, 1, 0] rfl ?_
  exact loop_6 n 0 (by omega) _ ih_fl2_0.symm

set_option maxHeartbeats 4000000 in
set_option maxRecDepth 100000 in
theorem c_X5_begin (l : Launch) (w : ih_Wd) (S : ih_Sg) (hp : ih_PX S) (s : Nat) (hs : s < 8) (l_ n : Int32) : ih_Cv l yX5_begin wsX5_begin 1 w ih_shX [.ref (w.2.2 (2 + 2 * s)), .int l_, .int n] S (fun S' => S' = ih_fa (ih_sI (ih_sI (ih_sI S (2 + 2 * s) 1 (nI 0)) (2 + 2 * s) 2 l_) (2 + 2 * s) 3 n) (3 + 2 * s) 60 (nI 0)) := by
  refine ih_bodyv (ret := none) rfl rfl (Nat.le_of_ble_eq_true rfl) ?_
  intro x A hA C
  have C : ih_Ok x w A cX5_begin 3 RX5 wsX5_begin (ih_rm 1) (none) := C
  show ih_Mw x w ih_shX A (ih_Qv x w ih_shX A _) 3 0 0 0 [(0, .ref (w.2.2 (2 + 2 * s))), (1, .int l_), (2, .int n)] [] S
  refine s_aload_n C 0 dX5_begin_0 rfl ?_
  refine s_iconst (v := nI 0) C dX5_begin_1 (by decide) ?_
  refine s_putI (ty := .boolean) C 5 1 tyX5 tyX5_ok nmX5 (by show 2 + 2 * s < 62; omega) (ih_kX_sh hs) (by decide) rfl (fun _ h => List.mem_cons_of_mem _ (List.mem_append_right _ h)) (by decide) rfl (by decide +kernel) rfl (by decide +kernel) (by decide) (by decide) dX5_begin_2 ?_
  refine s_aload_n C 0 dX5_begin_5 rfl ?_
  refine s_iload_n C 1 dX5_begin_6 rfl ?_
  refine s_putI (ty := .int) C 5 2 tyX5 tyX5_ok nmX5 (by show 2 + 2 * s < 62; omega) (ih_kX_sh hs) (by decide) rfl (fun _ h => List.mem_cons_of_mem _ (List.mem_append_right _ h)) (by decide) rfl (by decide +kernel) rfl (by decide +kernel) rfl rfl dX5_begin_7 ?_
  refine s_aload_n C 0 dX5_begin_10 rfl ?_
  refine s_iload_n C 2 dX5_begin_11 rfl ?_
  refine s_putI (ty := .int) C 5 3 tyX5 tyX5_ok nmX5 (by show 2 + 2 * s < 62; omega) (ih_kX_sh hs) (by decide) rfl (fun _ h => List.mem_cons_of_mem _ (List.mem_append_right _ h)) (by decide) rfl (by decide +kernel) rfl (by decide +kernel) rfl rfl dX5_begin_12 ?_
  refine s_aload_n C 0 dX5_begin_15 rfl ?_
  refine s_getR C 5 0 (hp _ _ _ (ih_pX_it hs)) (by show 2 + 2 * s < 62; omega) (ih_kX_sh hs) (by decide) rfl (fun _ h => List.mem_cons_of_mem _ (List.mem_append_right _ h)) (by decide) rfl (by decide +kernel) dX5_begin_16 ?_
  refine s_iconst (v := nI 0) C dX5_begin_19 (by decide) ?_
  refine s_callSv 2 C (c_fillI _ w _ (3 + 2 * s) 60 (by omega) (ih_kX_it hs) (ih_lX_it hs) (by decide) _) gX5_begin_J7_fill_53178 rfl (by decide +kernel) (by decide) (by decide) rfl rfl (Nat.le_of_ble_eq_true rfl) dX5_begin_20 ?_
  rintro S2 hS2
  exact s_vreturn C hA dX5_begin_23 hS2

set_option maxHeartbeats 4000000 in
set_option maxRecDepth 100000 in
theorem c_X6_toldKind (l : Launch) (w : ih_Wd) (S : ih_Sg) (hp : ih_PX S) (k : Nat) (hk : k < 12) (c : Nat → Nat) (hc : ∀ a, a < 6 → S.1 (20 + 2 * k) a = nI (c a) ∧ c a ≤ 1000) (h6 : S.1 (19 + 2 * k) 1 = nI (c 6) ∧ c 6 ≤ 1000) : ih_Ci l yX6_toldKind wsX6_toldKind 0 w ih_shX [.ref (w.2.2 (19 + 2 * k))] S (fun r S' => r = nI (ih_kdc c) ∧ S' = S) := by
  refine ih_bodyi (ret := some .int) rfl rfl (Nat.le_of_ble_eq_true rfl) ?_
  intro x A hA C
  have C : ih_Ok x w A cX6_toldKind 1 RX6 wsX6_toldKind (ih_rm 0) (some .int) := C
  show ih_Mw x w ih_shX A (ih_Qi x w ih_shX A _) 1 0 0 0 [(0, .ref (w.2.2 (19 + 2 * k)))] [] S
  have hb0 := (hc 0 (by decide)).2
  have hb4 := (hc 4 (by decide)).2
  have hb5 := (hc 5 (by decide)).2
  have hb6 := h6.2
  refine s_aload_n C 0 dX6_toldKind_0 rfl ?_
  refine s_getR C 6 0 (hp _ _ _ (ih_pX_ch hk)) (by show 19 + 2 * k < 62; omega) (ih_kX_st hk) (by decide) rfl (fun _ h => List.mem_cons_of_mem _ (List.mem_append_right _ h)) (by decide) rfl (by decide +kernel) dX6_toldKind_1 ?_
  refine s_iconst (v := nI 0) C dX6_toldKind_4 (by decide) ?_
  refine s_iaload C 6 (0) rfl (ih_lX_ch hk) (by decide) (by decide) (by show 20 + 2 * k < 62; omega) (ih_kX_ch hk) dX6_toldKind_5 ?_
  refine s_toe (hc 0 (by decide)).1 ?_
  refine s_sipush (v := nI 650) C dX6_toldKind_6 (by decide) ?_
  refine s_icmp_gtN 36 C dX6_toldKind_9 (by decide) (by omega) (by omega) (fun h9 => ?_) (fun h9 => ?_)
  · refine s_aload_n C 0 dX6_toldKind_36 rfl ?_
    refine s_getI C 6 1 (by show 19 + 2 * k < 62; omega) (ih_kX_st hk) (by decide) rfl (fun _ h => List.mem_cons_of_mem _ (List.mem_append_right _ h)) (by decide) rfl (by decide +kernel) dX6_toldKind_37 ?_
    refine s_toe h6.1 ?_
    refine s_sipush (v := nI 700) C dX6_toldKind_40 (by decide) ?_
    refine s_icmp_ltN 50 C dX6_toldKind_43 (by decide) (by omega) (by omega) (fun h43 => ?_) (fun h43 => ?_)
    · refine s_iconst (v := nI 0) C dX6_toldKind_50 (by decide) ?_
      exact s_ireturn C hA dX6_toldKind_51 ⟨by rw [ih_kdc, if_neg (by omega), if_neg (by omega)], rfl⟩
    · refine s_iconst (v := nI 3) C dX6_toldKind_46 (by decide) ?_
      refine s_goto C 51 dX6_toldKind_47 (by decide) ?_
      exact s_ireturn C hA dX6_toldKind_51 ⟨by rw [ih_kdc, if_neg (by omega), if_pos (by omega)], rfl⟩
  · refine s_aload_n C 0 dX6_toldKind_12 rfl ?_
    refine s_getR C 6 0 (hp _ _ _ (ih_pX_ch hk)) (by show 19 + 2 * k < 62; omega) (ih_kX_st hk) (by decide) rfl (fun _ h => List.mem_cons_of_mem _ (List.mem_append_right _ h)) (by decide) rfl (by decide +kernel) dX6_toldKind_13 ?_
    refine s_iconst (v := nI 4) C dX6_toldKind_16 (by decide) ?_
    refine s_iaload C 6 (4) rfl (ih_lX_ch hk) (by decide) (by decide) (by show 20 + 2 * k < 62; omega) (ih_kX_ch hk) dX6_toldKind_17 ?_
    refine s_toe (hc 4 (by decide)).1 ?_
    refine s_aload_n C 0 dX6_toldKind_18 rfl ?_
    refine s_getR C 6 0 (hp _ _ _ (ih_pX_ch hk)) (by show 19 + 2 * k < 62; omega) (ih_kX_st hk) (by decide) rfl (fun _ h => List.mem_cons_of_mem _ (List.mem_append_right _ h)) (by decide) rfl (by decide +kernel) dX6_toldKind_19 ?_
    refine s_iconst (v := nI 5) C dX6_toldKind_22 (by decide) ?_
    refine s_iaload C 6 (5) rfl (ih_lX_ch hk) (by decide) (by decide) (by show 20 + 2 * k < 62; omega) (ih_kX_ch hk) dX6_toldKind_23 ?_
    refine s_toe (hc 5 (by decide)).1 ?_
    refine s_iaddN C dX6_toldKind_24 ?_
    refine s_bipush (v := nI 60) C dX6_toldKind_25 (by decide) ?_
    refine s_icmp_ltN 34 C dX6_toldKind_27 (by decide) (by omega) (by omega) (fun h27 => ?_) (fun h27 => ?_)
    · refine s_iconst (v := nI 1) C dX6_toldKind_34 (by decide) ?_
      exact s_ireturn C hA dX6_toldKind_35 ⟨by rw [ih_kdc, if_pos (by omega), if_neg (by omega)], rfl⟩
    · refine s_iconst (v := nI 2) C dX6_toldKind_30 (by decide) ?_
      refine s_goto C 35 dX6_toldKind_31 (by decide) ?_
      exact s_ireturn C hA dX6_toldKind_35 ⟨by rw [ih_kdc, if_pos (by omega), if_pos (by omega)], rfl⟩

set_option maxHeartbeats 4000000 in
set_option maxRecDepth 100000 in
theorem c_X6_isOne (l : Launch) (w : ih_Wd) (S : ih_Sg) (hp : ih_PX S) (k : Nat) (hk : k < 12) (c : Nat → Nat) (hc : ∀ a, a < 6 → S.1 (20 + 2 * k) a = nI (c a) ∧ c a ≤ 1000) (h6 : S.1 (19 + 2 * k) 1 = nI (c 6) ∧ c 6 ≤ 1000) (kd : Nat) (hkd : kd < 4) : ih_Ci l yX6_isOne wsX6_isOne 1 w ih_shX [.ref (w.2.2 (19 + 2 * k)), .int (nI kd)] S (fun r S' => r = (if ih_isOf (ih_kdc c) kd = true then nI 1 else nI 0) ∧ S' = S) := by
  refine ih_bodyi (ret := some .boolean) rfl rfl (Nat.le_of_ble_eq_true rfl) ?_
  intro x A hA C
  have C : ih_Ok x w A cX6_isOne 3 RX6 wsX6_isOne (ih_rm 1) (some .boolean) := C
  show ih_Mw x w ih_shX A (ih_Qi x w ih_shX A _) 3 0 0 0 [(0, .ref (w.2.2 (19 + 2 * k))), (1, .int (nI kd))] [] S
  refine s_aload_n C 0 dX6_isOne_0 rfl ?_
  refine s_callVi 0 C (c_X6_toldKind _ w _ hp k hk c hc h6) gX6_isOne_X6_toldKind rfl (by decide +kernel) (by decide) (by decide) (by show 19 + 2 * k < 62; omega) (ih_kX_st hk) (by decide) rfl rfl rfl (Nat.le_of_ble_eq_true rfl) dX6_isOne_1 ?_
  rintro rq S2 ⟨hrq, hSS⟩
  obtain rfl := hSS.symm
  subst hrq
  have hk4 := ih_kdc_lt c
  refine s_istore_n (lv' := [(2, .int (nI (ih_kdc c))), (0, .ref (w.2.2 (19 + 2 * k))), (1, .int (nI kd))]) C dX6_isOne_4 rfl (by decide) rfl ?_
  refine s_iload_n C 2 dX6_isOne_5 rfl ?_
  refine s_if_eqN 24 C dX6_isOne_6 (by decide) (by omega) (fun h6 => ?_) (fun h6 => ?_)
  · refine s_iconst (v := nI 1) C dX6_isOne_24 (by decide) ?_
    refine s_goto C 29 dX6_isOne_25 (by decide) ?_
    exact s_zreturn C hA dX6_isOne_29 (by decide) ⟨by first | rw [if_pos (by simp only [ih_isOf, Bool.or_eq_true, Bool.and_eq_true, decide_eq_true_eq]; omega)] | rw [if_neg (by simp only [ih_isOf, Bool.or_eq_true, Bool.and_eq_true, decide_eq_true_eq]; omega)], rfl⟩
  · refine s_iload_n C 2 dX6_isOne_9 rfl ?_
    refine s_iload_n C 0 dX6_isOne_10 rfl ?_
    refine s_icmp_eqN 24 C dX6_isOne_11 (by decide) (by omega) (by omega) (fun h11 => ?_) (fun h11 => ?_)
    · refine s_iconst (v := nI 1) C dX6_isOne_24 (by decide) ?_
      refine s_goto C 29 dX6_isOne_25 (by decide) ?_
      exact s_zreturn C hA dX6_isOne_29 (by decide) ⟨by first | rw [if_pos (by simp only [ih_isOf, Bool.or_eq_true, Bool.and_eq_true, decide_eq_true_eq]; omega)] | rw [if_neg (by simp only [ih_isOf, Bool.or_eq_true, Bool.and_eq_true, decide_eq_true_eq]; omega)], rfl⟩
    · refine s_iload_n C 2 dX6_isOne_14 rfl ?_
      refine s_iconst (v := nI 1) C dX6_isOne_15 (by decide) ?_
      refine s_icmp_neN 28 C dX6_isOne_16 (by decide) (by omega) (by omega) (fun h16 => ?_) (fun h16 => ?_)
      · refine s_iconst (v := nI 0) C dX6_isOne_28 (by decide) ?_
        exact s_zreturn C hA dX6_isOne_29 (by decide) ⟨by first | rw [if_pos (by simp only [ih_isOf, Bool.or_eq_true, Bool.and_eq_true, decide_eq_true_eq]; omega)] | rw [if_neg (by simp only [ih_isOf, Bool.or_eq_true, Bool.and_eq_true, decide_eq_true_eq]; omega)], rfl⟩
      · refine s_iload_n C 0 dX6_isOne_19 rfl ?_
        refine s_iconst (v := nI 2) C dX6_isOne_20 (by decide) ?_
        refine s_icmp_neN 28 C dX6_isOne_21 (by decide) (by omega) (by omega) (fun h21 => ?_) (fun h21 => ?_)
        · refine s_iconst (v := nI 0) C dX6_isOne_28 (by decide) ?_
          exact s_zreturn C hA dX6_isOne_29 (by decide) ⟨by first | rw [if_pos (by simp only [ih_isOf, Bool.or_eq_true, Bool.and_eq_true, decide_eq_true_eq]; omega)] | rw [if_neg (by simp only [ih_isOf, Bool.or_eq_true, Bool.and_eq_true, decide_eq_true_eq]; omega)], rfl⟩
        · refine s_iconst (v := nI 1) C dX6_isOne_24 (by decide) ?_
          refine s_goto C 29 dX6_isOne_25 (by decide) ?_
          exact s_zreturn C hA dX6_isOne_29 (by decide) ⟨by first | rw [if_pos (by simp only [ih_isOf, Bool.or_eq_true, Bool.and_eq_true, decide_eq_true_eq]; omega)] | rw [if_neg (by simp only [ih_isOf, Bool.or_eq_true, Bool.and_eq_true, decide_eq_true_eq]; omega)], rfl⟩

set_option maxHeartbeats 4000000 in
set_option maxRecDepth 100000 in
theorem c_X6_chanceOrSteals (l : Launch) (w : ih_Wd) (S : ih_Sg) (hp : ih_PX S) (k : Nat) (hk : k < 12) (a : Nat) (ha : a < 7) : ih_Ci l yX6_chanceOrSteals wsX6_chanceOrSteals 0 w ih_shX [.ref (w.2.2 (19 + 2 * k)), .int (nI a)] S (fun r S' => r = (if a = 6 then S.1 (19 + 2 * k) 1 else S.1 (20 + 2 * k) a) ∧ S' = S) := by
  refine ih_bodyi (ret := some .int) rfl rfl (Nat.le_of_ble_eq_true rfl) ?_
  intro x A hA C
  have C : ih_Ok x w A cX6_chanceOrSteals 2 RX6 wsX6_chanceOrSteals (ih_rm 0) (some .int) := C
  show ih_Mw x w ih_shX A (ih_Qi x w ih_shX A _) 2 0 0 0 [(0, .ref (w.2.2 (19 + 2 * k))), (1, .int (nI a))] [] S
  refine s_iload_n C 1 dX6_chanceOrSteals_0 rfl ?_
  refine s_bipush (v := nI 6) C dX6_chanceOrSteals_1 (by decide) ?_
  refine s_icmp_neN 13 C dX6_chanceOrSteals_3 (by decide) (by omega) (by omega) (fun h3 => ?_) (fun h3 => ?_)
  · refine s_aload_n C 0 dX6_chanceOrSteals_13 rfl ?_
    refine s_getR C 6 0 (hp _ _ _ (ih_pX_ch hk)) (by show 19 + 2 * k < 62; omega) (ih_kX_st hk) (by decide) rfl (fun _ h => List.mem_cons_of_mem _ (List.mem_append_right _ h)) (by decide) rfl (by decide +kernel) dX6_chanceOrSteals_14 ?_
    refine s_iload_n C 1 dX6_chanceOrSteals_17 rfl ?_
    refine s_iaload C 6 (a) rfl (ih_lX_ch hk) (by omega) (by decide) (by show 20 + 2 * k < 62; omega) (ih_kX_ch hk) dX6_chanceOrSteals_18 ?_
    exact s_ireturn C hA dX6_chanceOrSteals_19 ⟨by first | rw [if_pos (by omega)] | rw [if_neg (by omega)], rfl⟩
  · refine s_aload_n C 0 dX6_chanceOrSteals_6 rfl ?_
    refine s_getI C 6 1 (by show 19 + 2 * k < 62; omega) (ih_kX_st hk) (by decide) rfl (fun _ h => List.mem_cons_of_mem _ (List.mem_append_right _ h)) (by decide) rfl (by decide +kernel) dX6_chanceOrSteals_7 ?_
    refine s_goto C 19 dX6_chanceOrSteals_10 (by decide) ?_
    exact s_ireturn C hA dX6_chanceOrSteals_19 ⟨by first | rw [if_pos (by omega)] | rw [if_neg (by omega)], rfl⟩

set_option maxHeartbeats 4000000 in
set_option maxRecDepth 100000 in
theorem c_X6_giveTheRestToOut (l : Launch) (w : ih_Wd) (Sb : ih_Sg) (hp : ih_PX Sb) (k : Nat) (hk : k < 12) : ih_Cv l yX6_giveTheRestToOut wsX6_giveTheRestToOut 0 w ih_shX [.ref (w.2.2 (19 + 2 * k))] Sb (fun S' => S' = ih_sI Sb (20 + 2 * k) 0 (ih_rest (Sb.1 (20 + 2 * k)) 5)) := by
  refine ih_bodyv (ret := none) rfl rfl (Nat.le_of_ble_eq_true rfl) ?_
  intro x A hA C
  have C : ih_Ok x w A cX6_giveTheRestToOut 3 RX6 wsX6_giveTheRestToOut (ih_rm 0) (none) := C
  show ih_Mw x w ih_shX A (ih_Qv x w ih_shX A _) 3 0 0 0 [(0, .ref (w.2.2 (19 + 2 * k)))] [] Sb
  obtain ⟨Q, hQ⟩ : ∃ Q, Q = ih_Qv x w ih_shX A (fun S' => S' = ih_sI Sb (20 + 2 * k) 0 (ih_rest (Sb.1 (20 + 2 * k)) 5)) := ⟨_, rfl⟩
  rw [show ih_Qv x w ih_shX A _ = Q from hQ.symm]
  refine s_sipush (v := nI 1000) C dX6_giveTheRestToOut_0 (by decide) ?_
  refine s_toe (b := ih_rest (Sb.1 (20 + 2 * k)) 0) rfl ?_
  refine s_istore_n (lv' := [(1, .int (ih_rest (Sb.1 (20 + 2 * k)) (0))), (0, .ref (w.2.2 (19 + 2 * k)))]) C dX6_giveTheRestToOut_3 rfl (by decide) rfl ?_
  refine s_iconst (v := nI 1) C dX6_giveTheRestToOut_4 (by decide) ?_
  refine s_istore_n (lv' := [(2, .int (nI 1)), (1, .int (ih_rest (Sb.1 (20 + 2 * k)) (0))), (0, .ref (w.2.2 (19 + 2 * k)))]) C dX6_giveTheRestToOut_5 rfl (by decide) rfl ?_
  have hx_6 : ∀ S, S = Sb → ih_Mw x w ih_shX A Q 3 0 0 26 [(0, .ref (w.2.2 (19 + 2 * k))), (1, .int (ih_rest (Sb.1 (20 + 2 * k)) (5)))] [] S := by
    intro S hE
    obtain rfl := hE.symm
    refine s_aload_n C 0 dX6_giveTheRestToOut_26 rfl ?_
    refine s_getR C 6 0 (hp _ _ _ (ih_pX_ch hk)) (by show 19 + 2 * k < 62; omega) (ih_kX_st hk) (by decide) rfl (fun _ h => List.mem_cons_of_mem _ (List.mem_append_right _ h)) (by decide) rfl (by decide +kernel) dX6_giveTheRestToOut_27 ?_
    refine s_iconst (v := nI 0) C dX6_giveTheRestToOut_30 (by decide) ?_
    refine s_iload_n C 1 dX6_giveTheRestToOut_31 rfl ?_
    refine s_iastore C 6 (0) rfl (ih_lX_ch hk) (by decide) (by decide) (by show 20 + 2 * k < 62; omega) (ih_kX_ch hk) dX6_giveTheRestToOut_32 ?_
    rw [hQ]
    exact s_vreturn C hA dX6_giveTheRestToOut_33 rfl
  have loop_6 : ∀ (fu m : Nat), m + fu = 5 → ∀ S, S = Sb → ih_Mw x w ih_shX A Q 3 0 0 6 [(0, .ref (w.2.2 (19 + 2 * k))), (1, .int (ih_rest (Sb.1 (20 + 2 * k)) (m))), (2, .int (nI (m + 1)))] [] S := by
    intro fu
    induction fu with
    | zero =>
      intro m hme S hE
      have hm0 : m = 5 := by omega
      refine s_iload_n C 2 dX6_giveTheRestToOut_6 rfl ?_
      refine s_iconst (v := nI 5) C dX6_giveTheRestToOut_7 (by decide) ?_
      refine s_icmp_gtN 26 C dX6_giveTheRestToOut_8 (by decide) (by omega) (by omega) (fun h8 => ?_) (fun h8 => ?_)
      · refine s_perm [0, 1] rfl ?_
        subst hm0
        exact hx_6 _ hE
      · exfalso; omega
    | succ fu ih_6 =>
      intro m hme S hE
      have hml : m < 5 := by omega
      obtain rfl := hE.symm
      refine s_iload_n C 2 dX6_giveTheRestToOut_6 rfl ?_
      refine s_iconst (v := nI 5) C dX6_giveTheRestToOut_7 (by decide) ?_
      refine s_icmp_gtN 26 C dX6_giveTheRestToOut_8 (by decide) (by omega) (by omega) (fun h8 => ?_) (fun h8 => ?_)
      · exfalso; omega
      · refine s_iload_n C 1 dX6_giveTheRestToOut_11 rfl ?_
        refine s_aload_n C 0 dX6_giveTheRestToOut_12 rfl ?_
        refine s_getR C 6 0 (hp _ _ _ (ih_pX_ch hk)) (by show 19 + 2 * k < 62; omega) (ih_kX_st hk) (by decide) rfl (fun _ h => List.mem_cons_of_mem _ (List.mem_append_right _ h)) (by decide) rfl (by decide +kernel) dX6_giveTheRestToOut_13 ?_
        refine s_iload_n C 2 dX6_giveTheRestToOut_16 rfl ?_
        refine s_iaload C 6 (m + 1) rfl (ih_lX_ch hk) (by omega) (by decide) (by show 20 + 2 * k < 62; omega) (ih_kX_ch hk) dX6_giveTheRestToOut_17 ?_
        refine s_isub C dX6_giveTheRestToOut_18  ?_
        refine s_toe (b := ih_rest (Sb.1 (20 + 2 * k)) (m + 1)) rfl ?_
        refine s_istore_n (lv' := [(1, .int (ih_rest (Sb.1 (20 + 2 * k)) (m + 1))), (0, .ref (w.2.2 (19 + 2 * k))), (2, .int (nI (m + 1)))]) C dX6_giveTheRestToOut_19 rfl (by decide) rfl ?_
        refine s_iinc (u := nI (m + 1 + 1)) (lv' := [(2, .int (nI (m + 1 + 1))), (1, .int (ih_rest (Sb.1 (20 + 2 * k)) (m + 1))), (0, .ref (w.2.2 (19 + 2 * k)))]) C 2 dX6_giveTheRestToOut_20 rfl (ih_incN (by decide)) (by decide) rfl ?_
        refine s_goto C 6 dX6_giveTheRestToOut_23 (by decide) ?_
        refine s_perm [2, 1, 0] rfl ?_
        exact ih_6 (m + 1) (by omega) _ rfl
  refine s_perm [2, 1, 0] rfl ?_
  exact loop_6 5 0 (by omega) _ rfl

set_option maxHeartbeats 4000000 in
set_option maxRecDepth 100000 in
theorem c_X1_standingAfter (l : Launch) (w : ih_Wd) (S : ih_Sg) (hp : ih_PX S) (s a : Nat) (hs : s < 24) (ha : a < 9) : ih_Ci l yX1_standingAfter wsX1_standingAfter 0 w ih_shX [.ref (w.2.2 43), .int (nI s), .int (nI a)] S (fun r S' => r = S.1 44 (s * 9 + a) ∧ S' = S) := by
  refine ih_bodyi (ret := some .int) rfl rfl (Nat.le_of_ble_eq_true rfl) ?_
  intro x A hA C
  have C : ih_Ok x w A cX1_standingAfter 3 RX1 wsX1_standingAfter (ih_rm 0) (some .int) := C
  show ih_Mw x w ih_shX A (ih_Qi x w ih_shX A _) 3 0 0 0 [(0, .ref (w.2.2 43)), (1, .int (nI s)), (2, .int (nI a))] [] S
  refine s_aload_n C 0 dX1_standingAfter_0 rfl ?_
  refine s_getR C 1 0 (hp _ _ _ rfl) (by decide) rfl (by decide) rfl (fun _ h => List.mem_cons_of_mem _ (List.mem_append_right _ h)) (by decide) rfl (by decide +kernel) dX1_standingAfter_1 ?_
  refine s_iload_n C 1 dX1_standingAfter_4 rfl ?_
  refine s_bipush (v := nI 9) C dX1_standingAfter_5 (by decide) ?_
  refine s_imulN C dX1_standingAfter_7 ?_
  refine s_iload_n C 2 dX1_standingAfter_8 rfl ?_
  refine s_iaddN C dX1_standingAfter_9 ?_
  refine s_iaload C 216 ((s * 9) + a) rfl rfl (by omega) (by decide) (by decide) rfl dX1_standingAfter_10 ?_
  exact s_ireturn C hA dX1_standingAfter_11 ⟨rfl, rfl⟩

set_option maxHeartbeats 4000000 in
set_option maxRecDepth 100000 in
theorem c_X1_runsOf (l : Launch) (w : ih_Wd) (S : ih_Sg) (hp : ih_PX S) (s a : Nat) (hs : s < 24) (ha : a < 9) : ih_Ci l yX1_runsOf wsX1_runsOf 0 w ih_shX [.ref (w.2.2 43), .int (nI s), .int (nI a)] S (fun r S' => r = S.1 45 (s * 9 + a) ∧ S' = S) := by
  refine ih_bodyi (ret := some .int) rfl rfl (Nat.le_of_ble_eq_true rfl) ?_
  intro x A hA C
  have C : ih_Ok x w A cX1_runsOf 3 RX1 wsX1_runsOf (ih_rm 0) (some .int) := C
  show ih_Mw x w ih_shX A (ih_Qi x w ih_shX A _) 3 0 0 0 [(0, .ref (w.2.2 43)), (1, .int (nI s)), (2, .int (nI a))] [] S
  refine s_aload_n C 0 dX1_runsOf_0 rfl ?_
  refine s_getR C 1 1 (hp _ _ _ rfl) (by decide) rfl (by decide) rfl (fun _ h => List.mem_cons_of_mem _ (List.mem_append_right _ h)) (by decide) rfl (by decide +kernel) dX1_runsOf_1 ?_
  refine s_iload_n C 1 dX1_runsOf_4 rfl ?_
  refine s_bipush (v := nI 9) C dX1_runsOf_5 (by decide) ?_
  refine s_imulN C dX1_runsOf_7 ?_
  refine s_iload_n C 2 dX1_runsOf_8 rfl ?_
  refine s_iaddN C dX1_runsOf_9 ?_
  refine s_iaload C 216 ((s * 9) + a) rfl rfl (by omega) (by decide) (by decide) rfl dX1_runsOf_10 ?_
  exact s_ireturn C hA dX1_runsOf_11 ⟨rfl, rfl⟩

set_option maxHeartbeats 4000000 in
set_option maxRecDepth 100000 in
theorem c_X1_someoneIsOn (l : Launch) (w : ih_Wd) (S : ih_Sg) (s : Nat) (hs : s < 24) : ih_Ci l yX1_someoneIsOn wsX1_someoneIsOn 0 w ih_shX [.int (nI s)] S (fun r S' => r = (if ¬ s % 8 = 0 then nI 1 else nI 0) ∧ S' = S) := by
  refine ih_bodyi (ret := some .boolean) rfl rfl (Nat.le_of_ble_eq_true rfl) ?_
  intro x A hA C
  have C : ih_Ok x w A cX1_someoneIsOn 1 RX1 wsX1_someoneIsOn (ih_rm 0) (some .boolean) := C
  show ih_Mw x w ih_shX A (ih_Qi x w ih_shX A _) 1 0 0 0 [(0, .int (nI s))] [] S
  refine s_iload_n C 0 dX1_someoneIsOn_0 rfl ?_
  refine s_bipush (v := nI 7) C dX1_someoneIsOn_1 (by decide) ?_
  refine s_iand C dX1_someoneIsOn_3 ?_
  refine s_if_eq C 11 dX1_someoneIsOn_4 (by decide) (fun h4 => ?_) (fun h4 => ?_)
  · refine s_iconst (v := nI 0) C dX1_someoneIsOn_11 (by decide) ?_
    exact s_zreturn C hA dX1_someoneIsOn_12 (by decide) ⟨(by revert h4; revert hs; revert s; decide +kernel), rfl⟩
  · refine s_iconst (v := nI 1) C dX1_someoneIsOn_7 (by decide) ?_
    refine s_goto C 12 dX1_someoneIsOn_8 (by decide) ?_
    exact s_zreturn C hA dX1_someoneIsOn_12 (by decide) ⟨(by revert h4; revert hs; revert s; decide +kernel), rfl⟩

set_option maxHeartbeats 4000000 in
set_option maxRecDepth 100000 in
theorem c_X1_canSteal (l : Launch) (w : ih_Wd) (S : ih_Sg) (s : Nat) (hs : s < 24) : ih_Ci l yX1_canSteal wsX1_canSteal 0 w ih_shX [.int (nI s)] S (fun r S' => r = (if s % 4 = 1 then nI 1 else nI 0) ∧ S' = S) := by
  refine ih_bodyi (ret := some .boolean) rfl rfl (Nat.le_of_ble_eq_true rfl) ?_
  intro x A hA C
  have C : ih_Ok x w A cX1_canSteal 1 RX1 wsX1_canSteal (ih_rm 0) (some .boolean) := C
  show ih_Mw x w ih_shX A (ih_Qi x w ih_shX A _) 1 0 0 0 [(0, .int (nI s))] [] S
  refine s_iload_n C 0 dX1_canSteal_0 rfl ?_
  refine s_iconst (v := nI 3) C dX1_canSteal_1 (by decide) ?_
  refine s_iand C dX1_canSteal_2 ?_
  refine s_iconst (v := nI 1) C dX1_canSteal_3 (by decide) ?_
  refine s_icmp_ne C 11 dX1_canSteal_4 (by decide) (fun h4 => ?_) (fun h4 => ?_)
  · refine s_iconst (v := nI 0) C dX1_canSteal_11 (by decide) ?_
    exact s_zreturn C hA dX1_canSteal_12 (by decide) ⟨(by revert h4; revert hs; revert s; decide +kernel), rfl⟩
  · refine s_iconst (v := nI 1) C dX1_canSteal_7 (by decide) ?_
    refine s_goto C 12 dX1_canSteal_8 (by decide) ?_
    exact s_zreturn C hA dX1_canSteal_12 (by decide) ⟨(by revert h4; revert hs; revert s; decide +kernel), rfl⟩

