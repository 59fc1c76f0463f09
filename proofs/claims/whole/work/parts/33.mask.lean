set_option maxHeartbeats 4000000 in
set_option maxRecDepth 100000 in
theorem c_X8_sizeOf_0 (l : Launch) (w : ih_Wd) (S : ih_Sg) (T : ih_TT) (hM : ih_RM S T) (hA2 : ih_InvA T) (k : Nat) (hk : k < 12) (c : Nat → Nat) (hc : ∀ a, a < 7 → T 4 (7 * k + a) = nI (c a) ∧ c a ≤ 1000) : ih_Ci l yX8_sizeOf wsX8_sizeOf 3 w ih_shM [.ref (w.2.2 0), .int (nI k), .int (nI 0)] S (fun r S' => r = nI (ih_vlZ c 0) ∧ ih_RM S' (ih_trZ T 0)) := by
  refine ih_bodyi (ret := some .int) rfl rfl (Nat.le_of_ble_eq_true rfl) ?_
  intro x A hA C
  have C : ih_Ok x w A cX8_sizeOf 4 RX8 wsX8_sizeOf (ih_rm 3) (some .int) := C
  show ih_Mw x w ih_shM A (ih_Qi x w ih_shM A _) 4 0 0 0 [(0, .ref (w.2.2 0)), (1, .int (nI k)), (2, .int (nI 0))] [] S
  have hc0 := (hc 0 (by decide)).2
  have hc5 := (hc 5 (by decide)).2
  have hc6 := (hc 6 (by decide)).2
  refine s_iload_n C 2 dX8_sizeOf_0 rfl ?_
  refine s_iconst (v := nI 1) C dX8_sizeOf_1 (by decide) ?_
  refine s_callSi 2 C (c_X8_isOf _ w _ 0 1 (by decide) (by decide)) gX8_sizeOf_X8_isOf rfl (by decide +kernel) (by decide) (by decide) rfl rfl (Nat.le_of_ble_eq_true rfl) dX8_sizeOf_2 ?_
  rintro ro S2 ⟨hro, rfl⟩
  subst hro
  refine s_if_eqN 15 C dX8_sizeOf_5 (by decide) (by omega) (fun h5 => ?_) (fun h5 => ?_)
  · refine s_iload_n C 2 dX8_sizeOf_15 rfl ?_
    refine s_iconst (v := nI 3) C dX8_sizeOf_16 (by decide) ?_
    refine s_icmp_neN 26 C dX8_sizeOf_17 (by decide) (by omega) (by omega) (fun h17 => ?_) (fun h17 => ?_)
    · refine s_aload_n C 0 dX8_sizeOf_26 rfl ?_
      refine s_bipush (v := nI 10) C dX8_sizeOf_27 (by decide) ?_
      refine s_callVv 1 C (c_X8_began _ w _ _ hM hA2 _) gX8_sizeOf_X8_began rfl (by decide +kernel) (by decide) (by decide) (by decide) rfl (by decide) rfl rfl rfl (Nat.le_of_ble_eq_true rfl) dX8_sizeOf_29 ?_
      rintro S hM
      replace hc := ih_bg_c (b := 10) hc
      replace hA2 := ih_bg_A (b := 10) hA2
      refine s_aload_n C 0 dX8_sizeOf_32 rfl ?_
      refine s_getR C 8 6 (hM.1 _ _ _ rfl) (by decide) rfl (by decide) rfl (fun _ h => List.mem_cons_of_mem _ (List.mem_append_right _ h)) (by decide) rfl (by decide +kernel) dX8_sizeOf_33 ?_
      refine s_bipush (v := nI 7) C dX8_sizeOf_36 (by decide) ?_
      refine s_iload_n C 1 dX8_sizeOf_38 rfl ?_
      refine s_imulN C dX8_sizeOf_39 ?_
      refine s_bipush (v := nI 6) C dX8_sizeOf_40 (by decide) ?_
      refine s_iaddN C dX8_sizeOf_42 ?_
      refine s_iaload C 84 ((7 * k) + 6) rfl rfl (by omega) (by decide) (by decide) rfl dX8_sizeOf_43 ?_
      refine s_toe (b := nI (c 6)) ((hM.2 _ _ rfl).trans (hc 6 (by decide)).1) ?_
      refine s_istore_n (lv' := [(3, .int (nI (c 6))), (0, .ref (w.2.2 0)), (1, .int (nI k)), (2, .int (nI 0))]) C dX8_sizeOf_44 rfl (by decide) rfl ?_
      refine s_iload_n C 3 dX8_sizeOf_45 rfl ?_
      refine s_iconst (v := nI 3) C dX8_sizeOf_46 (by decide) ?_
      refine s_icmp_neN 61 C dX8_sizeOf_47 (by decide) (by omega) (by omega) (fun h47 => ?_) (fun h47 => ?_)
      · refine s_iload_n C 0 dX8_sizeOf_61 rfl ?_
        exact s_ireturn C hA dX8_sizeOf_62 (by rw [ih_vlZ_0, ih_trZ_0]; exact ⟨rfl, hM⟩)
      · exact absurd h47 (by decide)
    · exact absurd h17 (by decide)
  · exact absurd h5 (by decide)

set_option maxHeartbeats 4000000 in
set_option maxRecDepth 100000 in
theorem c_X8_sizeOf_1 (l : Launch) (w : ih_Wd) (S : ih_Sg) (T : ih_TT) (hM : ih_RM S T) (hA2 : ih_InvA T) (k : Nat) (hk : k < 12) (c : Nat → Nat) (hc : ∀ a, a < 7 → T 4 (7 * k + a) = nI (c a) ∧ c a ≤ 1000) : ih_Ci l yX8_sizeOf wsX8_sizeOf 3 w ih_shM [.ref (w.2.2 0), .int (nI k), .int (nI 1)] S (fun r S' => r = nI (ih_vlZ c 1) ∧ ih_RM S' (ih_trZ T 1)) := by
  refine ih_bodyi (ret := some .int) rfl rfl (Nat.le_of_ble_eq_true rfl) ?_
  intro x A hA C
  have C : ih_Ok x w A cX8_sizeOf 4 RX8 wsX8_sizeOf (ih_rm 3) (some .int) := C
  show ih_Mw x w ih_shM A (ih_Qi x w ih_shM A _) 4 0 0 0 [(0, .ref (w.2.2 0)), (1, .int (nI k)), (2, .int (nI 1))] [] S
  have hc0 := (hc 0 (by decide)).2
  have hc5 := (hc 5 (by decide)).2
  have hc6 := (hc 6 (by decide)).2
  refine s_iload_n C 2 dX8_sizeOf_0 rfl ?_
  refine s_iconst (v := nI 1) C dX8_sizeOf_1 (by decide) ?_
  refine s_callSi 2 C (c_X8_isOf _ w _ 1 1 (by decide) (by decide)) gX8_sizeOf_X8_isOf rfl (by decide +kernel) (by decide) (by decide) rfl rfl (Nat.le_of_ble_eq_true rfl) dX8_sizeOf_2 ?_
  rintro ro S2 ⟨hro, rfl⟩
  subst hro
  refine s_if_eqN 15 C dX8_sizeOf_5 (by decide) (by omega) (fun h5 => ?_) (fun h5 => ?_)
  · exact absurd h5 (by decide)
  · refine s_aload_n C 0 dX8_sizeOf_8 rfl ?_
    refine s_iload_n C 1 dX8_sizeOf_9 rfl ?_
    refine s_iload_n C 2 dX8_sizeOf_10 rfl ?_
    refine s_callVi 2 C (c_X8_safeSize_1 _ w _ _ hM hA2 k hk c hc) gX8_sizeOf_X8_safeSize rfl (by decide +kernel) (by decide) (by decide) (by decide) rfl (by decide) rfl rfl rfl (Nat.le_of_ble_eq_true rfl) dX8_sizeOf_11 ?_
    rintro rz S ⟨hrz, hM⟩
    subst hrz
    exact s_ireturn C hA dX8_sizeOf_14 (by rw [ih_vlZ_1, ih_trZ_1]; exact ⟨rfl, hM⟩)

set_option maxHeartbeats 4000000 in
set_option maxRecDepth 100000 in
theorem c_X8_sizeOf_2 (l : Launch) (w : ih_Wd) (S : ih_Sg) (T : ih_TT) (hM : ih_RM S T) (hA2 : ih_InvA T) (k : Nat) (hk : k < 12) (c : Nat → Nat) (hc : ∀ a, a < 7 → T 4 (7 * k + a) = nI (c a) ∧ c a ≤ 1000) : ih_Ci l yX8_sizeOf wsX8_sizeOf 3 w ih_shM [.ref (w.2.2 0), .int (nI k), .int (nI 2)] S (fun r S' => r = nI (ih_vlZ c 2) ∧ ih_RM S' (ih_trZ T 2)) := by
  refine ih_bodyi (ret := some .int) rfl rfl (Nat.le_of_ble_eq_true rfl) ?_
  intro x A hA C
  have C : ih_Ok x w A cX8_sizeOf 4 RX8 wsX8_sizeOf (ih_rm 3) (some .int) := C
  show ih_Mw x w ih_shM A (ih_Qi x w ih_shM A _) 4 0 0 0 [(0, .ref (w.2.2 0)), (1, .int (nI k)), (2, .int (nI 2))] [] S
  have hc0 := (hc 0 (by decide)).2
  have hc5 := (hc 5 (by decide)).2
  have hc6 := (hc 6 (by decide)).2
  refine s_iload_n C 2 dX8_sizeOf_0 rfl ?_
  refine s_iconst (v := nI 1) C dX8_sizeOf_1 (by decide) ?_
  refine s_callSi 2 C (c_X8_isOf _ w _ 2 1 (by decide) (by decide)) gX8_sizeOf_X8_isOf rfl (by decide +kernel) (by decide) (by decide) rfl rfl (Nat.le_of_ble_eq_true rfl) dX8_sizeOf_2 ?_
  rintro ro S2 ⟨hro, rfl⟩
  subst hro
  refine s_if_eqN 15 C dX8_sizeOf_5 (by decide) (by omega) (fun h5 => ?_) (fun h5 => ?_)
  · exact absurd h5 (by decide)
  · refine s_aload_n C 0 dX8_sizeOf_8 rfl ?_
    refine s_iload_n C 1 dX8_sizeOf_9 rfl ?_
    refine s_iload_n C 2 dX8_sizeOf_10 rfl ?_
    refine s_callVi 2 C (c_X8_safeSize_2 _ w _ _ hM hA2 k hk c hc) gX8_sizeOf_X8_safeSize rfl (by decide +kernel) (by decide) (by decide) (by decide) rfl (by decide) rfl rfl rfl (Nat.le_of_ble_eq_true rfl) dX8_sizeOf_11 ?_
    rintro rz S ⟨hrz, hM⟩
    subst hrz
    exact s_ireturn C hA dX8_sizeOf_14 (by rw [ih_vlZ_2, ih_trZ_2]; exact ⟨rfl, hM⟩)

set_option maxHeartbeats 4000000 in
set_option maxRecDepth 100000 in
theorem c_X8_sizeOf_3 (l : Launch) (w : ih_Wd) (S : ih_Sg) (T : ih_TT) (hM : ih_RM S T) (hA2 : ih_InvA T) (k : Nat) (hk : k < 12) (c : Nat → Nat) (hc : ∀ a, a < 7 → T 4 (7 * k + a) = nI (c a) ∧ c a ≤ 1000) (hq : c 5 / 2 ≤ c 6) : ih_Ci l yX8_sizeOf wsX8_sizeOf 3 w ih_shM [.ref (w.2.2 0), .int (nI k), .int (nI 3)] S (fun r S' => r = nI (ih_vlZ c 3) ∧ ih_RM S' (ih_trZ T 3)) := by
  refine ih_bodyi (ret := some .int) rfl rfl (Nat.le_of_ble_eq_true rfl) ?_
  intro x A hA C
  have C : ih_Ok x w A cX8_sizeOf 4 RX8 wsX8_sizeOf (ih_rm 3) (some .int) := C
  show ih_Mw x w ih_shM A (ih_Qi x w ih_shM A _) 4 0 0 0 [(0, .ref (w.2.2 0)), (1, .int (nI k)), (2, .int (nI 3))] [] S
  have hc0 := (hc 0 (by decide)).2
  have hc5 := (hc 5 (by decide)).2
  have hc6 := (hc 6 (by decide)).2
  refine s_iload_n C 2 dX8_sizeOf_0 rfl ?_
  refine s_iconst (v := nI 1) C dX8_sizeOf_1 (by decide) ?_
  refine s_callSi 2 C (c_X8_isOf _ w _ 3 1 (by decide) (by decide)) gX8_sizeOf_X8_isOf rfl (by decide +kernel) (by decide) (by decide) rfl rfl (Nat.le_of_ble_eq_true rfl) dX8_sizeOf_2 ?_
  rintro ro S2 ⟨hro, rfl⟩
  subst hro
  refine s_if_eqN 15 C dX8_sizeOf_5 (by decide) (by omega) (fun h5 => ?_) (fun h5 => ?_)
  · refine s_iload_n C 2 dX8_sizeOf_15 rfl ?_
    refine s_iconst (v := nI 3) C dX8_sizeOf_16 (by decide) ?_
    refine s_icmp_neN 26 C dX8_sizeOf_17 (by decide) (by omega) (by omega) (fun h17 => ?_) (fun h17 => ?_)
    · exact absurd h17 (by decide)
    · refine s_aload_n C 0 dX8_sizeOf_20 rfl ?_
      refine s_bipush (v := nI 13) C dX8_sizeOf_21 (by decide) ?_
      refine s_callVv 1 C (c_X8_began _ w _ _ hM hA2 _) gX8_sizeOf_X8_began rfl (by decide +kernel) (by decide) (by decide) (by decide) rfl (by decide) rfl rfl rfl (Nat.le_of_ble_eq_true rfl) dX8_sizeOf_23 ?_
      rintro S hM
      replace hc := ih_bg_c (b := 13) hc
      replace hA2 := ih_bg_A (b := 13) hA2
      refine s_aload_n C 0 dX8_sizeOf_26 rfl ?_
      refine s_bipush (v := nI 10) C dX8_sizeOf_27 (by decide) ?_
      refine s_callVv 1 C (c_X8_began _ w _ _ hM hA2 _) gX8_sizeOf_X8_began rfl (by decide +kernel) (by decide) (by decide) (by decide) rfl (by decide) rfl rfl rfl (Nat.le_of_ble_eq_true rfl) dX8_sizeOf_29 ?_
      rintro S hM
      replace hc := ih_bg_c (b := 10) hc
      replace hA2 := ih_bg_A (b := 10) hA2
      refine s_aload_n C 0 dX8_sizeOf_32 rfl ?_
      refine s_getR C 8 6 (hM.1 _ _ _ rfl) (by decide) rfl (by decide) rfl (fun _ h => List.mem_cons_of_mem _ (List.mem_append_right _ h)) (by decide) rfl (by decide +kernel) dX8_sizeOf_33 ?_
      refine s_bipush (v := nI 7) C dX8_sizeOf_36 (by decide) ?_
      refine s_iload_n C 1 dX8_sizeOf_38 rfl ?_
      refine s_imulN C dX8_sizeOf_39 ?_
      refine s_bipush (v := nI 6) C dX8_sizeOf_40 (by decide) ?_
      refine s_iaddN C dX8_sizeOf_42 ?_
      refine s_iaload C 84 ((7 * k) + 6) rfl rfl (by omega) (by decide) (by decide) rfl dX8_sizeOf_43 ?_
      refine s_toe (b := nI (c 6)) ((hM.2 _ _ rfl).trans (hc 6 (by decide)).1) ?_
      refine s_istore_n (lv' := [(3, .int (nI (c 6))), (0, .ref (w.2.2 0)), (1, .int (nI k)), (2, .int (nI 3))]) C dX8_sizeOf_44 rfl (by decide) rfl ?_
      refine s_iload_n C 3 dX8_sizeOf_45 rfl ?_
      refine s_iconst (v := nI 3) C dX8_sizeOf_46 (by decide) ?_
      refine s_icmp_neN 61 C dX8_sizeOf_47 (by decide) (by omega) (by omega) (fun h47 => ?_) (fun h47 => ?_)
      · exact absurd h47 (by decide)
      · refine s_iload_n C 0 dX8_sizeOf_50 rfl ?_
        refine s_aload_n C 1 dX8_sizeOf_51 rfl ?_
        refine s_iload_n C 2 dX8_sizeOf_52 rfl ?_
        refine s_iload_n C 3 dX8_sizeOf_53 rfl ?_
        refine s_callVi 2 C (c_X8_markOf_3 _ w _ _ hM hA2 k hk c hc) gX8_sizeOf_X8_markOf rfl (by decide +kernel) (by decide) (by decide) (by decide) rfl (by decide) rfl rfl rfl (Nat.le_of_ble_eq_true rfl) dX8_sizeOf_54 ?_
        rintro rz S ⟨hrz, hM⟩
        rw [ih_vlM_3] at hrz
        subst hrz
        refine s_isubN C dX8_sizeOf_57 (by omega) ?_
        refine s_goto C 62 dX8_sizeOf_58 (by decide) ?_
        exact s_ireturn C hA dX8_sizeOf_62 (by rw [ih_vlZ_3, ih_trZ_3]; exact ⟨rfl, hM⟩)
  · exact absurd h5 (by decide)

theorem c_X8_sizeOf (l : Launch) (w : ih_Wd) (S : ih_Sg) (T : ih_TT) (hM : ih_RM S T) (hA2 : ih_InvA T) (k : Nat) (hk : k < 12) (c : Nat → Nat) (hc : ∀ a, a < 7 → T 4 (7 * k + a) = nI (c a) ∧ c a ≤ 1000) (kd : Nat) (hkd : kd < 4) (hq : kd = 3 → c 5 / 2 ≤ c 6) : ih_Ci l yX8_sizeOf wsX8_sizeOf 3 w ih_shM [.ref (w.2.2 0), .int (nI k), .int (nI kd)] S (fun r S' => r = nI (ih_vlZ c kd) ∧ ih_RM S' (ih_trZ T kd)) := by
  rcases ih_a4 hkd with rfl | rfl | rfl | rfl
  · exact c_X8_sizeOf_0 l w S T hM hA2 k hk c hc
  · exact c_X8_sizeOf_1 l w S T hM hA2 k hk c hc
  · exact c_X8_sizeOf_2 l w S T hM hA2 k hk c hc
  · exact c_X8_sizeOf_3 l w S T hM hA2 k hk c hc (hq rfl)
theorem ih_quick {T : ih_TT} (h : ih_Inv T) {k : Nat} (hk : k < ih_ct T) (h3 : ih_kind T k = 3) : ih_ch T k 5 / 2 ≤ ih_ch T k 6 := by
  have h5 := (ih_Inv_c h hk 5 (by decide)).2
  unfold ih_kind at h3
  split at h3
  · split at h3 <;> cases h3
  · split at h3
    · omega
    · cases h3
set_option maxHeartbeats 4000000 in
set_option maxRecDepth 100000 in
theorem c_X8_as (l : Launch) (w : ih_Wd) (S : ih_Sg) (T : ih_TT) (hM : ih_RM S T) (hI : ih_Inv T) (k o : Int32) : ih_Ci l yX8_as wsX8_as 2 w ih_shM [.ref (w.2.2 0), .int k, .int o] S (fun r S' => r = (sp_as T k o).1 ∧ ih_RM S' (sp_as T k o).2) := by
  refine ih_bodyi (ret := some .int) rfl rfl (Nat.le_of_ble_eq_true rfl) ?_
  intro x A hA C
  have C : ih_Ok x w A cX8_as 3 RX8 wsX8_as (ih_rm 2) (some .int) := C
  show ih_Mw x w ih_shM A (ih_Qi x w ih_shM A _) 3 0 0 0 [(0, .ref (w.2.2 0)), (1, .int k), (2, .int o)] [] S
  have hct : ih_ct T ≤ 12 := hI.2.1.2.1
  have hC := hI.2.1.2.2
  refine s_aload_n C 0 dX8_as_0 rfl ?_
  refine s_iconst (v := nI 0) C dX8_as_1 (by decide) ?_
  refine s_putI (ty := .int) C 8 0 tyX8 tyX8_ok nmX8 (by decide) rfl (by decide) rfl (fun _ h => List.mem_cons_of_mem _ (List.mem_append_right _ h)) (by decide) rfl (by decide +kernel) rfl (by decide +kernel) rfl rfl dX8_as_2 ?_
  refine m_hide hM rfl (fun S hM => ?_)
  refine s_aload_n C 0 dX8_as_5 rfl ?_
  refine s_iload_n C 1 dX8_as_6 rfl ?_
  refine s_callVi 1 C (c_X8_isStriker _ w _ hM hI _) gX8_as_X8_isStriker rfl (by decide +kernel) (by decide) (by decide) (by decide) rfl (by decide) rfl rfl rfl (Nat.le_of_ble_eq_true rfl) dX8_as_7 ?_
  rintro rk7 S2 ⟨hrk7, rfl⟩
  refine s_if_eq C 25 dX8_as_10 (by decide) (fun h10 => ?_) (fun h10 => ?_)
  · replace h10 := ih_b0 hrk7 h10
    refine s_ldc (v := (-1000001)) C (by decide +kernel) dX8_as_25 ?_
    exact s_ireturn C hA dX8_as_27 (by rw [sp_as, if_neg (by omega)]; exact ⟨rfl, hM⟩)
  · replace h10 := ih_b1 hrk7 h10
    refine s_iload_n C 2 dX8_as_13 rfl ?_
    refine s_i2l C dX8_as_14 ?_
    refine s_lconst (v := lN 0) C dX8_as_15 rfl ?_
    refine s_ldc2 (v := lN 3) C (by decide +kernel) dX8_as_16 ?_
    refine s_callSi 3 C (c_X8_in _ w _ _ _ _ _) gX8_as_X8_in rfl (by decide +kernel) (by decide) (by decide) rfl rfl (Nat.le_of_ble_eq_true rfl) dX8_as_19 ?_
    rintro rb19 S2 ⟨hrb19, rfl⟩
    rw [ih_wide, ih_tl (by decide), ih_tl (by decide)] at hrb19
    refine s_if_ne C 28 dX8_as_22 (by decide) (fun h22 => ?_) (fun h22 => ?_)
    · replace h22 := ih_b1 hrb19 h22
      obtain ⟨kn, hkn, rfl, hknt⟩ := ih_nat (a := k) h10.1
      obtain ⟨on_, hon_, rfl, hon_t⟩ := ih_nat (a := o) h22.1
      have hon_b : on_ < 4 := by omega
      have hkct : kn < ih_ct T := by omega
      refine s_aload_n C 0 dX8_as_28 rfl ?_
      refine s_iconst (v := nI 0) C dX8_as_29 (by decide) ?_
      refine s_putI (ty := .int) C 8 1 tyX8 tyX8_ok nmX8 (by decide) rfl (by decide) rfl (fun _ h => List.mem_cons_of_mem _ (List.mem_append_right _ h)) (by decide) rfl (by decide +kernel) rfl (by decide +kernel) rfl rfl dX8_as_30 ?_
      refine m_w hM (fun S hM => ?_)
      refine s_aload_n C 0 dX8_as_33 rfl ?_
      refine s_iload_n C 1 dX8_as_34 rfl ?_
      refine s_callVi 1 C (c_X8_kindOf _ w _ _ hM (ih_Inv_st hI) kn hkct) gX8_as_X8_kindOf rfl (by decide +kernel) (by decide) (by decide) (by decide) rfl (by decide) rfl rfl rfl (Nat.le_of_ble_eq_true rfl) dX8_as_35 ?_
      rintro rq S2 ⟨hrq, rfl⟩
      subst hrq
      refine s_iload_n C 2 dX8_as_38 rfl ?_
      refine s_callSi 2 C (c_X8_isOf _ w _ (ih_kind T kn) on_ (ih_kind_lt T kn) (by omega)) gX8_as_X8_isOf rfl (by decide +kernel) (by decide) (by decide) rfl rfl (Nat.le_of_ble_eq_true rfl) dX8_as_39 ?_
      rintro ro39 S2 ⟨hro39, rfl⟩
      refine s_if_eq C 57 dX8_as_42 (by decide) (fun h42 => ?_) (fun h42 => ?_)
      · replace h42 := ih_b0 hro39 h42
        refine s_aload_n C 0 dX8_as_57 rfl ?_
        refine s_iconst (v := nI 3) C dX8_as_58 (by decide) ?_
        refine s_callVi 1 C (c_X8_found _ w _ _) gX8_as_X8_found rfl (by decide +kernel) (by decide) (by decide) (by decide) rfl (by decide) rfl rfl rfl (Nat.le_of_ble_eq_true rfl) dX8_as_59 ?_
        rintro rf S2 ⟨hrf, rfl⟩
        refine m_w hM (fun S hM => ?_)
        exact s_ireturn C hA dX8_as_62 (by rw [sp_as, if_pos (by omega), ih_n_nI hkn, ih_n_nI hon_, if_neg h42]; exact ⟨hrf, hM⟩)
      · replace h42 := ih_b1 hro39 h42
        refine s_aload_n C 0 dX8_as_45 rfl ?_
        refine s_getR C 8 6 (hM.1 _ _ _ rfl) (by decide) rfl (by decide) rfl (fun _ h => List.mem_cons_of_mem _ (List.mem_append_right _ h)) (by decide) rfl (by decide +kernel) dX8_as_46 ?_
        refine s_bipush (v := nI 7) C dX8_as_49 (by decide) ?_
        refine s_iload_n C 1 dX8_as_51 rfl ?_
        refine s_imulN C dX8_as_52 ?_
        refine s_iaload C 84 (7 * kn) rfl rfl (by omega) (by decide) (by decide) rfl dX8_as_53 ?_
        refine s_toe (b := T 4 (7 * kn)) (hM.2 _ _ rfl) ?_
        refine s_goto C 62 dX8_as_54 (by decide) ?_
        exact s_ireturn C hA dX8_as_62 (by rw [sp_as, if_pos (by omega), ih_n_nI hkn, ih_n_nI hon_, if_pos h42]; exact ⟨rfl, hM⟩)
    · replace h22 := ih_b0 hrb19 h22
      refine s_ldc (v := (-1000001)) C (by decide +kernel) dX8_as_25 ?_
      exact s_ireturn C hA dX8_as_27 (by rw [sp_as, if_neg (by omega)]; exact ⟨rfl, hM⟩)

theorem ih_Inv_t0 {T : ih_TT} (h : ih_Inv T) : ih_Inv (ih_u2 T 0 21 (nI 0)) := ⟨h.1, h.2.1, h.2.2.1, h.2.2.2.1, rfl, by show ih_n (nI 0) ≤ 16; decide⟩
set_option maxHeartbeats 4000000 in
set_option maxRecDepth 100000 in
theorem c_X8_ask (l : Launch) (w : ih_Wd) (S : ih_Sg) (T : ih_TT) (hM : ih_RM S T) (hI : ih_Inv T) (k w_ : Int32) : ih_Ci l yX8_ask wsX8_ask 4 w ih_shM [.ref (w.2.2 0), .int k, .int w_] S (fun r S' => r = (sp_ask T k w_).1 ∧ ih_RM S' (sp_ask T k w_).2) := by
  refine ih_bodyi (ret := some .int) rfl rfl (Nat.le_of_ble_eq_true rfl) ?_
  intro x A hA C
  have C : ih_Ok x w A cX8_ask 3 RX8 wsX8_ask (ih_rm 4) (some .int) := C
  show ih_Mw x w ih_shM A (ih_Qi x w ih_shM A _) 3 0 0 0 [(0, .ref (w.2.2 0)), (1, .int k), (2, .int w_)] [] S
  have hct : ih_ct T ≤ 12 := hI.2.1.2.1
  have hC := hI.2.1.2.2
  refine s_aload_n C 0 dX8_ask_0 rfl ?_
  refine s_iconst (v := nI 0) C dX8_ask_1 (by decide) ?_
  refine s_putI (ty := .int) C 8 0 tyX8 tyX8_ok nmX8 (by decide) rfl (by decide) rfl (fun _ h => List.mem_cons_of_mem _ (List.mem_append_right _ h)) (by decide) rfl (by decide +kernel) rfl (by decide +kernel) rfl rfl dX8_ask_2 ?_
  refine m_hide hM rfl (fun S hM => ?_)
  refine s_aload_n C 0 dX8_ask_5 rfl ?_
  refine s_iload_n C 1 dX8_ask_6 rfl ?_
  refine s_callVi 1 C (c_X8_isStriker _ w _ hM hI _) gX8_ask_X8_isStriker rfl (by decide +kernel) (by decide) (by decide) (by decide) rfl (by decide) rfl rfl rfl (Nat.le_of_ble_eq_true rfl) dX8_ask_7 ?_
  rintro rk7 S2 ⟨hrk7, rfl⟩
  refine s_if_eq C 23 dX8_ask_10 (by decide) (fun h10 => ?_) (fun h10 => ?_)
  · replace h10 := ih_b0 hrk7 h10
    refine s_ldc (v := (-1000001)) C (by decide +kernel) dX8_ask_23 ?_
    exact s_ireturn C hA dX8_ask_25 (by rw [sp_ask, if_neg (by omega)]; exact ⟨rfl, hM⟩)
  · replace h10 := ih_b1 hrk7 h10
    refine s_iload_n C 2 dX8_ask_13 rfl ?_
    refine s_i2l C dX8_ask_14 ?_
    refine s_lconst (v := lN 0) C dX8_ask_15 rfl ?_
    refine s_lconst (v := lN 1) C dX8_ask_16 rfl ?_
    refine s_callSi 3 C (c_X8_in _ w _ _ _ _ _) gX8_ask_X8_in rfl (by decide +kernel) (by decide) (by decide) rfl rfl (Nat.le_of_ble_eq_true rfl) dX8_ask_17 ?_
    rintro rb17 S2 ⟨hrb17, rfl⟩
    rw [ih_wide, ih_tl (by decide), ih_tl (by decide)] at hrb17
    refine s_if_ne C 26 dX8_ask_20 (by decide) (fun h20 => ?_) (fun h20 => ?_)
    · replace h20 := ih_b1 hrb17 h20
      obtain ⟨kn, hkn, rfl, hknt⟩ := ih_nat (a := k) h10.1
      have hkct : kn < ih_ct T := by omega
      refine s_aload_n C 0 dX8_ask_26 rfl ?_
      refine s_iconst (v := nI 0) C dX8_ask_27 (by decide) ?_
      refine s_putI (ty := .int) C 8 21 tyX8 tyX8_ok nmX8 (by decide) rfl (by decide) rfl (fun _ h => List.mem_cons_of_mem _ (List.mem_append_right _ h)) (by decide) rfl (by decide +kernel) rfl (by decide +kernel) rfl rfl dX8_ask_28 ?_
      refine m_w hM (fun S hM => ?_)
      refine s_iload_n C 2 dX8_ask_31 rfl ?_
      refine s_if_ne C 48 dX8_ask_32 (by decide) (fun h32 => ?_) (fun h32 => ?_)
      · refine s_aload_n C 0 dX8_ask_48 rfl ?_
        refine s_iload_n C 1 dX8_ask_49 rfl ?_
        refine s_aload_n C 0 dX8_ask_50 rfl ?_
        refine s_iload_n C 1 dX8_ask_51 rfl ?_
        refine s_callVi 1 C (c_X8_kindOf _ w _ _ hM (ih_Inv_t0 hI) kn hkct) gX8_ask_X8_kindOf rfl (by decide +kernel) (by decide) (by decide) (by decide) rfl (by decide) rfl rfl rfl (Nat.le_of_ble_eq_true rfl) dX8_ask_52 ?_
        rintro rq S2 ⟨hrq, rfl⟩
        subst hrq
        refine s_callVi 2 C (c_X8_markOf _ w _ _ hM (ih_Inv_t0 hI).2.2.2.2 kn (by omega) (ih_ch T kn) (ih_Inv_c hI hkct) (ih_kind T kn) (ih_kind_lt T kn)) gX8_ask_X8_markOf rfl (by decide +kernel) (by decide) (by decide) (by decide) rfl (by decide) rfl rfl rfl (Nat.le_of_ble_eq_true rfl) dX8_ask_55 ?_
        rintro rz S ⟨hrz, hM⟩
        subst hrz
        exact s_ireturn C hA dX8_ask_58 (by rw [sp_ask, if_pos (by omega), ih_n_nI hkn, if_neg h32]; exact ⟨rfl, hM⟩)
      · refine s_aload_n C 0 dX8_ask_35 rfl ?_
        refine s_iload_n C 1 dX8_ask_36 rfl ?_
        refine s_aload_n C 0 dX8_ask_37 rfl ?_
        refine s_iload_n C 1 dX8_ask_38 rfl ?_
        refine s_callVi 1 C (c_X8_kindOf _ w _ _ hM (ih_Inv_t0 hI) kn hkct) gX8_ask_X8_kindOf rfl (by decide +kernel) (by decide) (by decide) (by decide) rfl (by decide) rfl rfl rfl (Nat.le_of_ble_eq_true rfl) dX8_ask_39 ?_
        rintro rq S2 ⟨hrq, rfl⟩
        subst hrq
        refine s_callVi 2 C (c_X8_sizeOf _ w _ _ hM (ih_Inv_t0 hI).2.2.2.2 kn (by omega) (ih_ch T kn) (ih_Inv_c hI hkct) (ih_kind T kn) (ih_kind_lt T kn) (ih_quick hI hkct)) gX8_ask_X8_sizeOf rfl (by decide +kernel) (by decide) (by decide) (by decide) rfl (by decide) rfl rfl rfl (Nat.le_of_ble_eq_true rfl) dX8_ask_42 ?_
        rintro rz S ⟨hrz, hM⟩
        subst hrz
        refine s_goto C 58 dX8_ask_45 (by decide) ?_
        exact s_ireturn C hA dX8_ask_58 (by rw [sp_ask, if_pos (by omega), ih_n_nI hkn, if_pos h32]; exact ⟨rfl, hM⟩)
    · replace h20 := ih_b0 hrb17 h20
      refine s_ldc (v := (-1000001)) C (by decide +kernel) dX8_ask_23 ?_
      exact s_ireturn C hA dX8_ask_25 (by rw [sp_ask, if_neg (by omega)]; exact ⟨rfl, hM⟩)

