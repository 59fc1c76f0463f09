set_option maxHeartbeats 4000000 in
set_option maxRecDepth 100000 in
theorem c_X7_howManySheets (l : Launch) (w : ih_Wd) (S : ih_Sg) (T : ih_TT) (hX : ih_RX S T) (hI : ih_Inv T) : ih_Ci l yX7_howManySheets wsX7_howManySheets 0 w ih_shX [.ref (w.2.2 0)] S (fun r S' => r = nI (ih_fc (fun s => decide (0 ≤ (T 1 s).toInt)) 8) ∧ ih_RX S' T) := by
  refine ih_bodyi (ret := some .int) rfl rfl (Nat.le_of_ble_eq_true rfl) ?_
  intro x A hA C
  have C : ih_Ok x w A cX7_howManySheets 3 RX7 wsX7_howManySheets (ih_rm 0) (some .int) := C
  show ih_Mw x w ih_shX A (ih_Qi x w ih_shX A _) 3 0 0 0 [(0, .ref (w.2.2 0))] [] S
  obtain ⟨Q, hQ⟩ : ∃ Q, Q = ih_Qi x w ih_shX A (fun r S' => r = nI (ih_fc (fun s => decide (0 ≤ (T 1 s).toInt)) 8) ∧ ih_RX S' T) := ⟨_, rfl⟩
  rw [show ih_Qi x w ih_shX A _ = Q from hQ.symm]
  refine s_iconst (v := nI 0) C dX7_howManySheets_0 (by decide) ?_
  refine s_istore_n (lv' := [(1, .int (nI 0)), (0, .ref (w.2.2 0))]) C dX7_howManySheets_1 rfl (by decide) rfl ?_
  refine s_iconst (v := nI 0) C dX7_howManySheets_2 (by decide) ?_
  refine s_istore_n (lv' := [(2, .int (nI 0)), (1, .int (nI 0)), (0, .ref (w.2.2 0))]) C dX7_howManySheets_3 rfl (by decide) rfl ?_
  have hx_4 : ∀ S, ih_RX S T → ih_Mw x w ih_shX A Q 3 0 0 31 [(0, .ref (w.2.2 0)), (1, .int (nI (ih_fc (fun s => decide (0 ≤ (T 1 s).toInt)) (8))))] [] S := by
    intro S hX
    refine s_iload_n C 1 dX7_howManySheets_31 rfl ?_
    rw [hQ]
    exact s_ireturn C hA dX7_howManySheets_32 ⟨rfl, hX⟩
  have loop_4 : ∀ (fu s : Nat), s + fu = 8 → ∀ S, ih_RX S T → ih_Mw x w ih_shX A Q 3 0 0 4 [(0, .ref (w.2.2 0)), (1, .int (nI (ih_fc (fun s => decide (0 ≤ (T 1 s).toInt)) (s)))), (2, .int (nI s))] [] S := by
    intro fu
    induction fu with
    | zero =>
      intro s hse S hX
      have hs0 : s = 8 := by omega
      refine s_iload_n C 2 dX7_howManySheets_4 rfl ?_
      refine s_bipush (v := nI 8) C dX7_howManySheets_5 (by decide) ?_
      refine s_icmp_geN 31 C dX7_howManySheets_7 (by decide) (by omega) (by omega) (fun h7 => ?_) (fun h7 => ?_)
      · refine s_perm [0, 1] rfl ?_
        subst hs0
        exact hx_4 _ hX
      · exfalso; omega
    | succ fu ih_4 =>
      intro s hse S hX
      have hsl : s < 8 := by omega
      have hp := hX.1
      refine s_iload_n C 2 dX7_howManySheets_4 rfl ?_
      refine s_bipush (v := nI 8) C dX7_howManySheets_5 (by decide) ?_
      refine s_icmp_geN 31 C dX7_howManySheets_7 (by decide) (by omega) (by omega) (fun h7 => ?_) (fun h7 => ?_)
      · exfalso; omega
      · refine s_aload_n C 0 dX7_howManySheets_10 rfl ?_
        refine s_getR C 7 0 (hp _ _ _ rfl) (by decide) rfl (by decide) rfl (fun _ h => List.mem_cons_of_mem _ (List.mem_append_left _ (List.mem_append_right _ h))) (by decide) rfl (by decide +kernel) dX7_howManySheets_11 ?_
        refine s_iload_n C 2 dX7_howManySheets_14 rfl ?_
        refine s_aaload C 8 (s) (hp _ _ _ (ih_pX_sh (by omega))) rfl rfl (by omega) (by decide) (by decide) rfl (by decide) dX7_howManySheets_15 ?_
        refine s_getI C 5 1 (by show 2 + 2 * s < 62; omega) (ih_kX_sh (by omega)) (by decide) rfl (fun _ h => List.mem_cons_of_mem _ (List.mem_append_right _ h)) (by decide) rfl (by decide +kernel) dX7_howManySheets_16 ?_
        refine s_topi (fun rmi ermi => ?_)
        replace ermi := ermi.trans (hX.2.2.2.2.1 s (by omega)).1
        refine s_if_ne C 25 dX7_howManySheets_19 (by decide) (fun h19 => ?_) (fun h19 => ?_)
        · replace h19 := ih_b1 ermi h19
          rw [show nI (ih_fc (fun s => decide (0 ≤ (T 1 s).toInt)) (s)) = nI (ih_fc (fun s => decide (0 ≤ (T 1 s).toInt)) (s + 1)) from congrArg nI (by rw [ih_fc, if_neg (by rw [decide_eq_true_eq]; omega), Nat.add_zero])]
          refine s_iinc (u := nI (s + 1)) (lv' := [(2, .int (nI (s + 1))), (0, .ref (w.2.2 0)), (1, .int (nI (ih_fc (fun s => decide (0 ≤ (T 1 s).toInt)) (s + 1))))]) C 2 dX7_howManySheets_25 rfl (ih_incN (by decide)) (by decide) rfl ?_
          refine s_goto C 4 dX7_howManySheets_28 (by decide) ?_
          refine s_perm [1, 2, 0] rfl ?_
          exact ih_4 (s + 1) (by omega) _ hX
        · replace h19 := ih_b0 ermi h19
          refine s_iinc (u := nI (ih_fc (fun s => decide (0 ≤ (T 1 s).toInt)) (s) + 1)) (lv' := [(1, .int (nI (ih_fc (fun s => decide (0 ≤ (T 1 s).toInt)) (s) + 1))), (0, .ref (w.2.2 0)), (2, .int (nI s))]) C 1 dX7_howManySheets_22 rfl (ih_incN (by decide)) (by decide) rfl ?_
          rw [show nI (ih_fc (fun s => decide (0 ≤ (T 1 s).toInt)) (s) + 1) = nI (ih_fc (fun s => decide (0 ≤ (T 1 s).toInt)) (s + 1)) from congrArg nI (by rw [ih_fc, if_pos (by rw [decide_eq_true_eq]; omega)])]
          refine s_iinc (u := nI (s + 1)) (lv' := [(2, .int (nI (s + 1))), (1, .int (nI (ih_fc (fun s => decide (0 ≤ (T 1 s).toInt)) (s + 1)))), (0, .ref (w.2.2 0))]) C 2 dX7_howManySheets_25 rfl (ih_incN (by decide)) (by decide) rfl ?_
          refine s_goto C 4 dX7_howManySheets_28 (by decide) ?_
          refine s_perm [2, 1, 0] rfl ?_
          exact ih_4 (s + 1) (by omega) _ hX
  refine s_perm [2, 1, 0] rfl ?_
  exact loop_4 (8) 0 (by omega) _ hX

set_option maxHeartbeats 4000000 in
set_option maxRecDepth 100000 in
theorem c_X7_howManyStrikers (l : Launch) (w : ih_Wd) (S : ih_Sg) (T : ih_TT) (hX : ih_RX S T) (hI : ih_Inv T) (kd : Nat) (hkd : kd < 4) : ih_Ci l yX7_howManyStrikers wsX7_howManyStrikers 2 w ih_shX [.ref (w.2.2 0), .int (nI kd)] S (fun r S' => r = nI (ih_fc (fun k => ih_isOf (ih_kind T k) kd) (ih_ct T)) ∧ ih_RX S' T) := by
  refine ih_bodyi (ret := some .int) rfl rfl (Nat.le_of_ble_eq_true rfl) ?_
  intro x A hA C
  have C : ih_Ok x w A cX7_howManyStrikers 4 RX7 wsX7_howManyStrikers (ih_rm 2) (some .int) := C
  show ih_Mw x w ih_shX A (ih_Qi x w ih_shX A _) 4 0 0 0 [(0, .ref (w.2.2 0)), (1, .int (nI kd))] [] S
  obtain ⟨Q, hQ⟩ : ∃ Q, Q = ih_Qi x w ih_shX A (fun r S' => r = nI (ih_fc (fun k => ih_isOf (ih_kind T k) kd) (ih_ct T)) ∧ ih_RX S' T) := ⟨_, rfl⟩
  rw [show ih_Qi x w ih_shX A _ = Q from hQ.symm]
  have hct : ih_ct T ≤ 12 := hI.2.1.2.1
  refine s_iconst (v := nI 0) C dX7_howManyStrikers_0 (by decide) ?_
  refine s_istore_n (lv' := [(2, .int (nI 0)), (0, .ref (w.2.2 0)), (1, .int (nI kd))]) C dX7_howManyStrikers_1 rfl (by decide) rfl ?_
  refine s_iconst (v := nI 0) C dX7_howManyStrikers_2 (by decide) ?_
  refine s_istore_n (lv' := [(3, .int (nI 0)), (2, .int (nI 0)), (0, .ref (w.2.2 0)), (1, .int (nI kd))]) C dX7_howManyStrikers_3 rfl (by decide) rfl ?_
  have hx_4 : ∀ S, ih_RX S T → ih_Mw x w ih_shX A Q 4 0 0 34 [(0, .ref (w.2.2 0)), (2, .int (nI (ih_fc (fun k => ih_isOf (ih_kind T k) kd) (ih_ct T))))] [] S := by
    intro S hX
    refine s_iload_n C 1 dX7_howManyStrikers_34 rfl ?_
    rw [hQ]
    exact s_ireturn C hA dX7_howManyStrikers_35 ⟨rfl, hX⟩
  have loop_4 : ∀ (fu k : Nat), k + fu = ih_ct T → ∀ S, ih_RX S T → ih_Mw x w ih_shX A Q 4 0 0 4 [(0, .ref (w.2.2 0)), (1, .int (nI kd)), (2, .int (nI (ih_fc (fun k => ih_isOf (ih_kind T k) kd) (k)))), (3, .int (nI k))] [] S := by
    intro fu
    induction fu with
    | zero =>
      intro k hke S hX
      have hk0 : k = ih_ct T := by omega
      refine s_iload_n C 3 dX7_howManyStrikers_4 rfl ?_
      refine s_aload_n C 0 dX7_howManyStrikers_5 rfl ?_
      refine s_getI C 7 2 (by decide) rfl (by decide) rfl (fun _ h => List.mem_cons_of_mem _ (List.mem_append_left _ (List.mem_append_right _ h))) (by decide) rfl (by decide +kernel) dX7_howManyStrikers_6 ?_
      refine s_toe (ih_RX_ct hX hI) ?_
      refine s_icmp_geN 34 C dX7_howManyStrikers_9 (by decide) (by omega) (by omega) (fun h9 => ?_) (fun h9 => ?_)
      · refine s_perm [0, 2] rfl ?_
        subst hk0
        exact hx_4 _ hX
      · exfalso; omega
    | succ fu ih_4 =>
      intro k hke S hX
      have hkl : k < ih_ct T := by omega
      have hp := hX.1
      refine s_iload_n C 3 dX7_howManyStrikers_4 rfl ?_
      refine s_aload_n C 0 dX7_howManyStrikers_5 rfl ?_
      refine s_getI C 7 2 (by decide) rfl (by decide) rfl (fun _ h => List.mem_cons_of_mem _ (List.mem_append_left _ (List.mem_append_right _ h))) (by decide) rfl (by decide +kernel) dX7_howManyStrikers_6 ?_
      refine s_toe (ih_RX_ct hX hI) ?_
      refine s_icmp_geN 34 C dX7_howManyStrikers_9 (by decide) (by omega) (by omega) (fun h9 => ?_) (fun h9 => ?_)
      · exfalso; omega
      · refine s_aload_n C 0 dX7_howManyStrikers_12 rfl ?_
        refine s_getR C 7 1 (hp _ _ _ rfl) (by decide) rfl (by decide) rfl (fun _ h => List.mem_cons_of_mem _ (List.mem_append_left _ (List.mem_append_right _ h))) (by decide) rfl (by decide +kernel) dX7_howManyStrikers_13 ?_
        refine s_iload_n C 3 dX7_howManyStrikers_16 rfl ?_
        refine s_aaload C 12 (k) (hp _ _ _ (ih_pX_st (by omega))) rfl rfl (by omega) (by decide) (by decide) rfl (by decide) dX7_howManyStrikers_17 ?_
        refine s_iload_n C 1 dX7_howManyStrikers_18 rfl ?_
        refine s_callVi 1 C (c_X6_isOne _ w _ hX.1 k (by omega) (ih_ch T k) (ih_RX_c hX hI (by omega)) (ih_RX_6 hX hI (by omega)) kd hkd) gX7_howManyStrikers_X6_isOne rfl (by decide +kernel) (by decide) (by decide) (by show 19 + 2 * k < 62; omega) (ih_kX_st (by omega)) (by decide) rfl rfl rfl (Nat.le_of_ble_eq_true rfl) dX7_howManyStrikers_19 ?_
        rintro ro S2 ⟨hro, hSS⟩
        obtain rfl := hSS.symm
        rw [← ih_kind_c] at hro
        refine s_if_eq C 28 dX7_howManyStrikers_22 (by decide) (fun h22 => ?_) (fun h22 => ?_)
        · replace h22 := ih_b0 hro h22
          rw [show nI (ih_fc (fun k => ih_isOf (ih_kind T k) kd) (k)) = nI (ih_fc (fun k => ih_isOf (ih_kind T k) kd) (k + 1)) from congrArg nI (by rw [ih_fc, if_neg h22, Nat.add_zero])]
          refine s_iinc (u := nI (k + 1)) (lv' := [(3, .int (nI (k + 1))), (0, .ref (w.2.2 0)), (1, .int (nI kd)), (2, .int (nI (ih_fc (fun k => ih_isOf (ih_kind T k) kd) (k + 1))))]) C 3 dX7_howManyStrikers_28 rfl (ih_incN (by decide)) (by decide) rfl ?_
          refine s_goto C 4 dX7_howManyStrikers_31 (by decide) ?_
          refine s_perm [1, 2, 3, 0] rfl ?_
          exact ih_4 (k + 1) (by omega) _ hX
        · replace h22 := ih_b1 hro h22
          refine s_iinc (u := nI (ih_fc (fun k => ih_isOf (ih_kind T k) kd) (k) + 1)) (lv' := [(2, .int (nI (ih_fc (fun k => ih_isOf (ih_kind T k) kd) (k) + 1))), (0, .ref (w.2.2 0)), (1, .int (nI kd)), (3, .int (nI k))]) C 2 dX7_howManyStrikers_25 rfl (ih_incN (by decide)) (by decide) rfl ?_
          rw [show nI (ih_fc (fun k => ih_isOf (ih_kind T k) kd) (k) + 1) = nI (ih_fc (fun k => ih_isOf (ih_kind T k) kd) (k + 1)) from congrArg nI (by rw [ih_fc, if_pos h22])]
          refine s_iinc (u := nI (k + 1)) (lv' := [(3, .int (nI (k + 1))), (2, .int (nI (ih_fc (fun k => ih_isOf (ih_kind T k) kd) (k + 1)))), (0, .ref (w.2.2 0)), (1, .int (nI kd))]) C 3 dX7_howManyStrikers_28 rfl (ih_incN (by decide)) (by decide) rfl ?_
          refine s_goto C 4 dX7_howManyStrikers_31 (by decide) ?_
          refine s_perm [2, 3, 1, 0] rfl ?_
          exact ih_4 (k + 1) (by omega) _ hX
  refine s_perm [2, 3, 1, 0] rfl ?_
  exact loop_4 (ih_ct T) 0 (by omega) _ hX

set_option maxHeartbeats 4000000 in
set_option maxRecDepth 100000 in
theorem c_X4_howManyTeams (l : Launch) (w : ih_Wd) (S : ih_Sg) (T : ih_TT) (hX : ih_RX S T) (hI : ih_Inv T) : ih_Ci l yX4_howManyTeams wsX4_howManyTeams 0 w ih_shX [.ref (w.2.2 53)] S (fun r S' => r = nI ((if T 9 0 = -1000000 then 0 else 1) + (if T 9 1 = -1000000 then 0 else 1)) ∧ S' = S) := by
  refine ih_bodyi (ret := some .int) rfl rfl (Nat.le_of_ble_eq_true rfl) ?_
  intro x A hA C
  have C : ih_Ok x w A cX4_howManyTeams 1 RX4 wsX4_howManyTeams (ih_rm 0) (some .int) := C
  show ih_Mw x w ih_shX A (ih_Qi x w ih_shX A _) 1 0 0 0 [(0, .ref (w.2.2 53))] [] S
  have hp := hX.1
  refine s_aload_n C 0 dX4_howManyTeams_0 rfl ?_
  refine s_getR C 4 2 (hp _ _ _ rfl) (by decide) rfl (by decide) rfl (fun _ h => List.mem_cons_of_mem _ (List.mem_append_right _ h)) (by decide) rfl (by decide +kernel) dX4_howManyTeams_1 ?_
  refine s_iconst (v := nI 0) C dX4_howManyTeams_4 (by decide) ?_
  refine s_iaload C 2 (0) rfl rfl (by decide) (by decide) (by decide) rfl dX4_howManyTeams_5 ?_
  refine s_toe (b := T 9 0) (hX.2.2.2.2.2.2.2.1 0 (by decide)) ?_
  refine s_ldc (v := (-1000000)) C (by decide +kernel) dX4_howManyTeams_6 ?_
  refine s_icmp_ne C 15 dX4_howManyTeams_8 (by decide) (fun h8 => ?_) (fun h8 => ?_)
  · refine s_iconst (v := nI 1) C dX4_howManyTeams_15 (by decide) ?_
    refine s_aload_n C 0 dX4_howManyTeams_16 rfl ?_
    refine s_getR C 4 2 (hp _ _ _ rfl) (by decide) rfl (by decide) rfl (fun _ h => List.mem_cons_of_mem _ (List.mem_append_right _ h)) (by decide) rfl (by decide +kernel) dX4_howManyTeams_17 ?_
    refine s_iconst (v := nI 1) C dX4_howManyTeams_20 (by decide) ?_
    refine s_iaload C 2 (1) rfl rfl (by decide) (by decide) (by decide) rfl dX4_howManyTeams_21 ?_
    refine s_toe (b := T 9 1) (hX.2.2.2.2.2.2.2.1 1 (by decide)) ?_
    refine s_ldc (v := (-1000000)) C (by decide +kernel) dX4_howManyTeams_22 ?_
    refine s_icmp_ne C 31 dX4_howManyTeams_24 (by decide) (fun h24 => ?_) (fun h24 => ?_)
    · refine s_iconst (v := nI 1) C dX4_howManyTeams_31 (by decide) ?_
      refine s_iaddN C dX4_howManyTeams_32 ?_
      exact s_ireturn C hA dX4_howManyTeams_33 ⟨by (first | rw [if_pos h8] | rw [if_neg h8]); (first | rw [if_pos h24] | rw [if_neg h24]), rfl⟩
    · refine s_iconst (v := nI 0) C dX4_howManyTeams_27 (by decide) ?_
      refine s_goto C 32 dX4_howManyTeams_28 (by decide) ?_
      refine s_iaddN C dX4_howManyTeams_32 ?_
      exact s_ireturn C hA dX4_howManyTeams_33 ⟨by (first | rw [if_pos h8] | rw [if_neg h8]); (first | rw [if_pos h24] | rw [if_neg h24]), rfl⟩
  · refine s_iconst (v := nI 0) C dX4_howManyTeams_11 (by decide) ?_
    refine s_goto C 16 dX4_howManyTeams_12 (by decide) ?_
    refine s_aload_n C 0 dX4_howManyTeams_16 rfl ?_
    refine s_getR C 4 2 (hp _ _ _ rfl) (by decide) rfl (by decide) rfl (fun _ h => List.mem_cons_of_mem _ (List.mem_append_right _ h)) (by decide) rfl (by decide +kernel) dX4_howManyTeams_17 ?_
    refine s_iconst (v := nI 1) C dX4_howManyTeams_20 (by decide) ?_
    refine s_iaload C 2 (1) rfl rfl (by decide) (by decide) (by decide) rfl dX4_howManyTeams_21 ?_
    refine s_toe (b := T 9 1) (hX.2.2.2.2.2.2.2.1 1 (by decide)) ?_
    refine s_ldc (v := (-1000000)) C (by decide +kernel) dX4_howManyTeams_22 ?_
    refine s_icmp_ne C 31 dX4_howManyTeams_24 (by decide) (fun h24 => ?_) (fun h24 => ?_)
    · refine s_iconst (v := nI 1) C dX4_howManyTeams_31 (by decide) ?_
      refine s_iaddN C dX4_howManyTeams_32 ?_
      exact s_ireturn C hA dX4_howManyTeams_33 ⟨by (first | rw [if_pos h8] | rw [if_neg h8]); (first | rw [if_pos h24] | rw [if_neg h24]), rfl⟩
    · refine s_iconst (v := nI 0) C dX4_howManyTeams_27 (by decide) ?_
      refine s_goto C 32 dX4_howManyTeams_28 (by decide) ?_
      refine s_iaddN C dX4_howManyTeams_32 ?_
      exact s_ireturn C hA dX4_howManyTeams_33 ⟨by (first | rw [if_pos h8] | rw [if_neg h8]); (first | rw [if_pos h24] | rw [if_neg h24]), rfl⟩

set_option maxHeartbeats 4000000 in
set_option maxRecDepth 100000 in
theorem c_X7_count_0 (l : Launch) (w : ih_Wd) (S : ih_Sg) (T : ih_TT) (hX : ih_RX S T) (hI : ih_Inv T) : ih_Ci l yX7_count wsX7_count 3 w ih_shX [.ref (w.2.2 0), .int (nI 0)] S (fun r S' => r = sp_count T (nI 0) ∧ ih_RX S' T) := by
  refine ih_bodyi (ret := some .int) rfl rfl (Nat.le_of_ble_eq_true rfl) ?_
  intro x A hA C
  have C : ih_Ok x w A cX7_count 2 RX7 wsX7_count (ih_rm 3) (some .int) := C
  show ih_Mw x w ih_shX A (ih_Qi x w ih_shX A _) 2 0 0 0 [(0, .ref (w.2.2 0)), (1, .int (nI 0))] [] S
  have hp := hX.1
  refine s_iload_n C 1 dX7_count_0 rfl ?_
  refine s_tableIn (off := 43) C 44 dX7_count_1 (by decide) (by decide) (by decide) (by decide) ?_
  refine s_aload_n C 0 dX7_count_44 rfl ?_
  refine s_callVi 0 C (c_X7_howManySheets _ w _ T hX hI) gX7_count_X7_howManySheets rfl (by decide +kernel) (by decide) (by decide) (by decide) rfl (by decide) rfl rfl rfl (Nat.le_of_ble_eq_true rfl) dX7_count_45 ?_
  rintro rr S ⟨hrr, hX⟩
  exact s_ireturn C hA dX7_count_48 (by rw [sp_count, if_pos (by decide)]; exact ⟨hrr, hX⟩)

set_option maxHeartbeats 4000000 in
set_option maxRecDepth 100000 in
theorem c_X7_count_1 (l : Launch) (w : ih_Wd) (S : ih_Sg) (T : ih_TT) (hX : ih_RX S T) (hI : ih_Inv T) : ih_Ci l yX7_count wsX7_count 3 w ih_shX [.ref (w.2.2 0), .int (nI 1)] S (fun r S' => r = sp_count T (nI 1) ∧ ih_RX S' T) := by
  refine ih_bodyi (ret := some .int) rfl rfl (Nat.le_of_ble_eq_true rfl) ?_
  intro x A hA C
  have C : ih_Ok x w A cX7_count 2 RX7 wsX7_count (ih_rm 3) (some .int) := C
  show ih_Mw x w ih_shX A (ih_Qi x w ih_shX A _) 2 0 0 0 [(0, .ref (w.2.2 0)), (1, .int (nI 1))] [] S
  have hp := hX.1
  refine s_iload_n C 1 dX7_count_0 rfl ?_
  refine s_tableIn (off := 48) C 49 dX7_count_1 (by decide) (by decide) (by decide) (by decide) ?_
  refine s_aload_n C 0 dX7_count_49 rfl ?_
  refine s_getI C 7 2 (by decide) rfl (by decide) rfl (fun _ h => List.mem_cons_of_mem _ (List.mem_append_left _ (List.mem_append_left _ (List.mem_append_left _ (List.mem_append_left _ (List.mem_append_right _ h)))))) (by decide) rfl (by decide +kernel) dX7_count_50 ?_
  refine s_toe (b := T 0 5) hX.2.2.2.1 ?_
  exact s_ireturn C hA dX7_count_53 (by rw [sp_count, if_neg (by decide), if_pos (by decide)]; exact ⟨rfl, hX⟩)

set_option maxHeartbeats 4000000 in
set_option maxRecDepth 100000 in
theorem c_X7_count_2 (l : Launch) (w : ih_Wd) (S : ih_Sg) (T : ih_TT) (hX : ih_RX S T) (hI : ih_Inv T) : ih_Ci l yX7_count wsX7_count 3 w ih_shX [.ref (w.2.2 0), .int (nI 2)] S (fun r S' => r = sp_count T (nI 2) ∧ ih_RX S' T) := by
  refine ih_bodyi (ret := some .int) rfl rfl (Nat.le_of_ble_eq_true rfl) ?_
  intro x A hA C
  have C : ih_Ok x w A cX7_count 2 RX7 wsX7_count (ih_rm 3) (some .int) := C
  show ih_Mw x w ih_shX A (ih_Qi x w ih_shX A _) 2 0 0 0 [(0, .ref (w.2.2 0)), (1, .int (nI 2))] [] S
  have hp := hX.1
  refine s_iload_n C 1 dX7_count_0 rfl ?_
  refine s_tableIn (off := 53) C 54 dX7_count_1 (by decide) (by decide) (by decide) (by decide) ?_
  refine s_aload_n C 0 dX7_count_54 rfl ?_
  refine s_iconst (v := nI 1) C dX7_count_55 (by decide) ?_
  refine s_callVi 1 C (c_X7_howManyStrikers _ w _ T hX hI 1 (by decide)) gX7_count_X7_howManyStrikers rfl (by decide +kernel) (by decide) (by decide) (by decide) rfl (by decide) rfl rfl rfl (Nat.le_of_ble_eq_true rfl) dX7_count_56 ?_
  rintro rr S ⟨hrr, hX⟩
  exact s_ireturn C hA dX7_count_59 (by rw [sp_count, if_neg (by decide), if_neg (by decide), if_pos (by decide), ih_n_nI (by decide)]; exact ⟨hrr, hX⟩)

set_option maxHeartbeats 4000000 in
set_option maxRecDepth 100000 in
theorem c_X7_count_3 (l : Launch) (w : ih_Wd) (S : ih_Sg) (T : ih_TT) (hX : ih_RX S T) (hI : ih_Inv T) : ih_Ci l yX7_count wsX7_count 3 w ih_shX [.ref (w.2.2 0), .int (nI 3)] S (fun r S' => r = sp_count T (nI 3) ∧ ih_RX S' T) := by
  refine ih_bodyi (ret := some .int) rfl rfl (Nat.le_of_ble_eq_true rfl) ?_
  intro x A hA C
  have C : ih_Ok x w A cX7_count 2 RX7 wsX7_count (ih_rm 3) (some .int) := C
  show ih_Mw x w ih_shX A (ih_Qi x w ih_shX A _) 2 0 0 0 [(0, .ref (w.2.2 0)), (1, .int (nI 3))] [] S
  have hp := hX.1
  refine s_iload_n C 1 dX7_count_0 rfl ?_
  refine s_tableIn (off := 59) C 60 dX7_count_1 (by decide) (by decide) (by decide) (by decide) ?_
  refine s_aload_n C 0 dX7_count_60 rfl ?_
  refine s_iconst (v := nI 2) C dX7_count_61 (by decide) ?_
  refine s_callVi 1 C (c_X7_howManyStrikers _ w _ T hX hI 2 (by decide)) gX7_count_X7_howManyStrikers rfl (by decide +kernel) (by decide) (by decide) (by decide) rfl (by decide) rfl rfl rfl (Nat.le_of_ble_eq_true rfl) dX7_count_62 ?_
  rintro rr S ⟨hrr, hX⟩
  exact s_ireturn C hA dX7_count_65 (by rw [sp_count, if_neg (by decide), if_neg (by decide), if_pos (by decide), ih_n_nI (by decide)]; exact ⟨hrr, hX⟩)

set_option maxHeartbeats 4000000 in
set_option maxRecDepth 100000 in
theorem c_X7_count_4 (l : Launch) (w : ih_Wd) (S : ih_Sg) (T : ih_TT) (hX : ih_RX S T) (hI : ih_Inv T) : ih_Ci l yX7_count wsX7_count 3 w ih_shX [.ref (w.2.2 0), .int (nI 4)] S (fun r S' => r = sp_count T (nI 4) ∧ ih_RX S' T) := by
  refine ih_bodyi (ret := some .int) rfl rfl (Nat.le_of_ble_eq_true rfl) ?_
  intro x A hA C
  have C : ih_Ok x w A cX7_count 2 RX7 wsX7_count (ih_rm 3) (some .int) := C
  show ih_Mw x w ih_shX A (ih_Qi x w ih_shX A _) 2 0 0 0 [(0, .ref (w.2.2 0)), (1, .int (nI 4))] [] S
  have hp := hX.1
  refine s_iload_n C 1 dX7_count_0 rfl ?_
  refine s_tableIn (off := 65) C 66 dX7_count_1 (by decide) (by decide) (by decide) (by decide) ?_
  refine s_aload_n C 0 dX7_count_66 rfl ?_
  refine s_iconst (v := nI 3) C dX7_count_67 (by decide) ?_
  refine s_callVi 1 C (c_X7_howManyStrikers _ w _ T hX hI 3 (by decide)) gX7_count_X7_howManyStrikers rfl (by decide +kernel) (by decide) (by decide) (by decide) rfl (by decide) rfl rfl rfl (Nat.le_of_ble_eq_true rfl) dX7_count_68 ?_
  rintro rr S ⟨hrr, hX⟩
  exact s_ireturn C hA dX7_count_71 (by rw [sp_count, if_neg (by decide), if_neg (by decide), if_pos (by decide), ih_n_nI (by decide)]; exact ⟨hrr, hX⟩)

set_option maxHeartbeats 4000000 in
set_option maxRecDepth 100000 in
theorem c_X7_count_5 (l : Launch) (w : ih_Wd) (S : ih_Sg) (T : ih_TT) (hX : ih_RX S T) (hI : ih_Inv T) : ih_Ci l yX7_count wsX7_count 3 w ih_shX [.ref (w.2.2 0), .int (nI 5)] S (fun r S' => r = sp_count T (nI 5) ∧ ih_RX S' T) := by
  refine ih_bodyi (ret := some .int) rfl rfl (Nat.le_of_ble_eq_true rfl) ?_
  intro x A hA C
  have C : ih_Ok x w A cX7_count 2 RX7 wsX7_count (ih_rm 3) (some .int) := C
  show ih_Mw x w ih_shX A (ih_Qi x w ih_shX A _) 2 0 0 0 [(0, .ref (w.2.2 0)), (1, .int (nI 5))] [] S
  have hp := hX.1
  refine s_iload_n C 1 dX7_count_0 rfl ?_
  refine s_tableIn (off := 71) C 72 dX7_count_1 (by decide) (by decide) (by decide) (by decide) ?_
  refine s_aload_n C 0 dX7_count_72 rfl ?_
  refine s_getR C 7 4 (hp _ _ _ rfl) (by decide) rfl (by decide) rfl (fun _ h => List.mem_cons_of_mem _ (List.mem_append_left _ (List.mem_append_left _ (List.mem_append_left _ (List.mem_append_left _ (List.mem_append_right _ h)))))) (by decide) rfl (by decide +kernel) dX7_count_73 ?_
  refine s_getI C 2 3 (by decide) rfl (by decide) rfl (fun _ h => List.mem_cons_of_mem _ (List.mem_append_left _ (List.mem_append_left _ (List.mem_append_left _ (List.mem_append_right _ h))))) (by decide) rfl (by decide +kernel) dX7_count_76 ?_
  refine s_toe (b := T 0 7) hX.2.2.2.2.2.2.1.1 ?_
  exact s_ireturn C hA dX7_count_79 (by rw [sp_count, if_neg (by decide), if_neg (by decide), if_neg (by decide), if_pos (by decide)]; exact ⟨rfl, hX⟩)

set_option maxHeartbeats 4000000 in
set_option maxRecDepth 100000 in
theorem c_X7_count_6 (l : Launch) (w : ih_Wd) (S : ih_Sg) (T : ih_TT) (hX : ih_RX S T) (hI : ih_Inv T) : ih_Ci l yX7_count wsX7_count 3 w ih_shX [.ref (w.2.2 0), .int (nI 6)] S (fun r S' => r = sp_count T (nI 6) ∧ ih_RX S' T) := by
  refine ih_bodyi (ret := some .int) rfl rfl (Nat.le_of_ble_eq_true rfl) ?_
  intro x A hA C
  have C : ih_Ok x w A cX7_count 2 RX7 wsX7_count (ih_rm 3) (some .int) := C
  show ih_Mw x w ih_shX A (ih_Qi x w ih_shX A _) 2 0 0 0 [(0, .ref (w.2.2 0)), (1, .int (nI 6))] [] S
  have hp := hX.1
  refine s_iload_n C 1 dX7_count_0 rfl ?_
  refine s_tableIn (off := 79) C 80 dX7_count_1 (by decide) (by decide) (by decide) (by decide) ?_
  refine s_aload_n C 0 dX7_count_80 rfl ?_
  refine s_getR C 7 5 (hp _ _ _ rfl) (by decide) rfl (by decide) rfl (fun _ h => List.mem_cons_of_mem _ (List.mem_append_left _ (List.mem_append_left _ (List.mem_append_left _ (List.mem_append_left _ (List.mem_append_right _ h)))))) (by decide) rfl (by decide +kernel) dX7_count_81 ?_
  refine s_callVi 0 C (c_X4_howManyTeams _ w _ T hX hI) gX7_count_X4_howManyTeams rfl (by decide +kernel) (by decide) (by decide) (by decide) rfl (by decide) rfl rfl rfl (Nat.le_of_ble_eq_true rfl) dX7_count_84 ?_
  rintro rr S2 ⟨hrr, hSS⟩
  obtain rfl := hSS.symm
  exact s_ireturn C hA dX7_count_87 (by rw [sp_count, if_neg (by decide), if_neg (by decide), if_neg (by decide), if_neg (by decide), if_pos (by decide)]; exact ⟨hrr, hX⟩)

set_option maxHeartbeats 4000000 in
set_option maxRecDepth 100000 in
theorem c_X7_count_o (l : Launch) (w : ih_Wd) (S : ih_Sg) (T : ih_TT) (hX : ih_RX S T) (hI : ih_Inv T) (w_ : Int32) (hw : w_.toInt < 0 ∨ 6 < w_.toInt) : ih_Ci l yX7_count wsX7_count 3 w ih_shX [.ref (w.2.2 0), .int w_] S (fun r S' => r = sp_count T w_ ∧ ih_RX S' T) := by
  refine ih_bodyi (ret := some .int) rfl rfl (Nat.le_of_ble_eq_true rfl) ?_
  intro x A hA C
  have C : ih_Ok x w A cX7_count 2 RX7 wsX7_count (ih_rm 3) (some .int) := C
  show ih_Mw x w ih_shX A (ih_Qi x w ih_shX A _) 2 0 0 0 [(0, .ref (w.2.2 0)), (1, .int w_)] [] S
  have hp := hX.1
  refine s_iload_n C 1 dX7_count_0 rfl ?_
  refine s_tableOut C 88 dX7_count_1 hw (by decide) ?_
  refine s_ldc (v := (-1000001)) C (by decide +kernel) dX7_count_88 ?_
  exact s_ireturn C hA dX7_count_90 (by rw [sp_count, if_neg (ih_nw hw (by decide)), if_neg (ih_nw hw (by decide)), if_neg (by intro q; rcases q with q | q | q <;> exact ih_nw hw (by decide) q), if_neg (ih_nw hw (by decide)), if_neg (ih_nw hw (by decide))]; exact ⟨rfl, hX⟩)

theorem c_X7_count (l : Launch) (w : ih_Wd) (S : ih_Sg) (T : ih_TT) (hX : ih_RX S T) (hI : ih_Inv T) (w_ : Int32) : ih_Ci l yX7_count wsX7_count 3 w ih_shX [.ref (w.2.2 0), .int w_] S (fun r S' => r = sp_count T w_ ∧ ih_RX S' T) := by
  by_cases hw : w_.toInt < 0 ∨ 6 < w_.toInt
  · exact c_X7_count_o l w S T hX hI w_ hw
  · obtain ⟨n, hn, rfl, hnt⟩ := ih_nat (a := w_) (by omega)
    rcases (show n = 0 ∨ n = 1 ∨ n = 2 ∨ n = 3 ∨ n = 4 ∨ n = 5 ∨ n = 6 by omega) with rfl | rfl | rfl | rfl | rfl | rfl | rfl
    · exact c_X7_count_0 l w S T hX hI
    · exact c_X7_count_1 l w S T hX hI
    · exact c_X7_count_2 l w S T hX hI
    · exact c_X7_count_3 l w S T hX hI
    · exact c_X7_count_4 l w S T hX hI
    · exact c_X7_count_5 l w S T hX hI
    · exact c_X7_count_6 l w S T hX hI
