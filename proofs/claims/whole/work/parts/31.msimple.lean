theorem ih_m1 {n : Nat} (h : n < 1000) : (nI n - nI 1).toInt = (n : Int) - 1 := by
  rw [pk_sub_toInt (by omega) (by omega)]; rfl
theorem ih_bc {c d : Prop} [Decidable c] [Decidable d] {r : Int32} (hr : r = if c then nI 1 else nI 0) (h : c ↔ d) : r = if d then nI 1 else nI 0 := by
  rw [hr]
  by_cases hc : c
  · rw [if_pos hc, if_pos (h.mp hc)]
  · rw [if_neg hc, if_neg (fun q => hc (h.mpr q))]
set_option maxHeartbeats 4000000 in
set_option maxRecDepth 100000 in
theorem c_X8_isStriker (l : Launch) (w : ih_Wd) (S : ih_Sg) {T : ih_TT} (hM : ih_RM S T) (hI : ih_Inv T) (k : Int32) : ih_Ci l yX8_isStriker wsX8_isStriker 1 w ih_shM [.ref (w.2.2 0), .int k] S (fun r S' => r = (if 0 ≤ k.toInt ∧ k.toInt < ih_ct T then nI 1 else nI 0) ∧ S' = S) := by
  refine ih_bodyi (ret := some .boolean) rfl rfl (Nat.le_of_ble_eq_true rfl) ?_
  intro x A hA C
  have C : ih_Ok x w A cX8_isStriker 2 RX8 wsX8_isStriker (ih_rm 1) (some .boolean) := C
  show ih_Mw x w ih_shM A (ih_Qi x w ih_shM A _) 2 0 0 0 [(0, .ref (w.2.2 0)), (1, .int k)] [] S
  have hct : ih_ct T ≤ 12 := hI.2.1.2.1
  refine s_iload_n C 1 dX8_isStriker_0 rfl ?_
  refine s_i2l C dX8_isStriker_1 ?_
  refine s_lconst (v := lN 0) C dX8_isStriker_2 rfl ?_
  refine s_aload_n C 0 dX8_isStriker_3 rfl ?_
  refine s_getI C 8 5 (by decide) rfl (by decide) rfl (fun _ h => List.mem_cons_of_mem _ (List.mem_append_right _ h)) (by decide) rfl (by decide +kernel) dX8_isStriker_4 ?_
  refine s_toe (b := T 0 5) (hM.2 _ _ rfl) ?_
  refine s_toe (b := nI (ih_ct T)) hI.2.1.1 ?_
  refine s_iconst (v := nI 1) C dX8_isStriker_7 (by decide) ?_
  refine s_isub C dX8_isStriker_8  ?_
  refine s_i2l C dX8_isStriker_9 ?_
  refine s_callSi 3 C (c_X8_in _ w _ _ _ _ _) gX8_isStriker_X8_in rfl (by decide +kernel) (by decide) (by decide) rfl rfl (Nat.le_of_ble_eq_true rfl) dX8_isStriker_10 ?_
  rintro r S2 ⟨hr, rfl⟩
  rw [ih_wide, ih_wide, ih_tl (by decide), ih_m1 (by omega)] at hr
  exact s_zreturn C hA dX8_isStriker_13 (by rw [hr]; split <;> decide) ⟨ih_bc hr (by omega), rfl⟩

set_option maxHeartbeats 4000000 in
set_option maxRecDepth 100000 in
theorem c_X8_sheet (l : Launch) (w : ih_Wd) (S : ih_Sg) (T : ih_TT) (hM : ih_RM S T) (hI : ih_Inv T) (s l_ n : Int32) : ih_Ci l yX8_sheet wsX8_sheet 2 w ih_shM [.ref (w.2.2 0), .int s, .int l_, .int n] S (fun r S' => r = (sp_sheet T s l_ n).1 ∧ ih_RM S' (sp_sheet T s l_ n).2) := by
  refine ih_bodyi (ret := some .int) rfl rfl (Nat.le_of_ble_eq_true rfl) ?_
  intro x A hA C
  have C : ih_Ok x w A cX8_sheet 5 RX8 wsX8_sheet (ih_rm 2) (some .int) := C
  show ih_Mw x w ih_shM A (ih_Qi x w ih_shM A _) 5 0 0 0 [(0, .ref (w.2.2 0)), (1, .int s), (2, .int l_), (3, .int n)] [] S
  obtain ⟨Q, hQ⟩ : ∃ Q, Q = ih_Qi x w ih_shM A (fun r S' => r = (sp_sheet T s l_ n).1 ∧ ih_RM S' (sp_sheet T s l_ n).2) := ⟨_, rfl⟩
  rw [show ih_Qi x w ih_shM A _ = Q from hQ.symm]
  refine s_aload_n C 0 dX8_sheet_0 rfl ?_
  refine s_iconst (v := nI 0) C dX8_sheet_1 (by decide) ?_
  refine s_putI (ty := .int) C 8 0 tyX8 tyX8_ok nmX8 (by decide) rfl (by decide) rfl (fun _ h => List.mem_cons_of_mem _ (List.mem_append_right _ h)) (by decide) rfl (by decide +kernel) rfl (by decide +kernel) rfl rfl dX8_sheet_2 ?_
  refine m_hide hM rfl (fun S hM => ?_)
  refine s_iload_n C 1 dX8_sheet_5 rfl ?_
  refine s_callSi 1 C (c_X8_isSheet _ w _ _) gX8_sheet_X8_isSheet rfl (by decide +kernel) (by decide) (by decide) rfl rfl (Nat.le_of_ble_eq_true rfl) dX8_sheet_6 ?_
  rintro rs6 S2 ⟨hrs6, rfl⟩
  refine s_if_eq C 30 dX8_sheet_9 (by decide) (fun h9 => ?_) (fun h9 => ?_)
  · replace h9 := ih_b0 hrs6 h9
    refine s_ldc (v := (-1000001)) C (by decide +kernel) dX8_sheet_30 ?_
    rw [hQ]
    exact s_ireturn C hA dX8_sheet_32 (by rw [sp_sheet, if_neg (by omega)]; exact ⟨rfl, hM⟩)
  · replace h9 := ih_b1 hrs6 h9
    obtain ⟨sn, hsn, rfl, hsnt⟩ := ih_nat (a := s) h9.1
    have hsnb : sn < 8 := by omega
    refine s_iload_n C 2 dX8_sheet_12 rfl ?_
    refine s_i2l C dX8_sheet_13 ?_
    refine s_lconst (v := lN 0) C dX8_sheet_14 rfl ?_
    refine s_ldc2 (v := lN 2) C (by decide +kernel) dX8_sheet_15 ?_
    refine s_callSi 3 C (c_X8_in _ w _ _ _ _ _) gX8_sheet_X8_in rfl (by decide +kernel) (by decide) (by decide) rfl rfl (Nat.le_of_ble_eq_true rfl) dX8_sheet_18 ?_
    rintro rb18 S2 ⟨hrb18, rfl⟩
    rw [ih_wide, ih_tl (by decide), ih_tl (by decide)] at hrb18
    refine s_if_eq C 30 dX8_sheet_21 (by decide) (fun h21 => ?_) (fun h21 => ?_)
    · replace h21 := ih_b0 hrb18 h21
      refine s_ldc (v := (-1000001)) C (by decide +kernel) dX8_sheet_30 ?_
      rw [hQ]
      exact s_ireturn C hA dX8_sheet_32 (by rw [sp_sheet, if_neg (by omega)]; exact ⟨rfl, hM⟩)
    · replace h21 := ih_b1 hrb18 h21
      refine s_iload_n C 3 dX8_sheet_24 rfl ?_
      refine s_bipush (v := nI 60) C dX8_sheet_25 (by decide) ?_
      refine s_icmp_le C 33 dX8_sheet_27 (by decide) (fun h27 => ?_) (fun h27 => ?_)
      · simp only [ih_lei, ih_lti, ih_t0, ih_t (n := 60) (by omega)] at h27
        refine s_aload_n C 0 dX8_sheet_33 rfl ?_
        refine s_iconst (v := nI 0) C dX8_sheet_34 (by decide) ?_
        refine s_putI (ty := .int) C 8 1 tyX8 tyX8_ok nmX8 (by decide) rfl (by decide) rfl (fun _ h => List.mem_cons_of_mem _ (List.mem_append_right _ h)) (by decide) rfl (by decide +kernel) rfl (by decide +kernel) rfl rfl dX8_sheet_35 ?_
        refine m_w hM (fun S hM => ?_)
        refine s_iload_n C 3 dX8_sheet_38 rfl ?_
        refine s_if_ge C 48 dX8_sheet_39 (by decide) (fun h39 => ?_) (fun h39 => ?_)
        · simp only [ih_lei, ih_lti, ih_t0] at h39
          refine s_aload_n C 0 dX8_sheet_48 rfl ?_
          refine s_getR C 8 2 (hM.1 _ _ _ rfl) (by decide) rfl (by decide) rfl (fun _ h => List.mem_cons_of_mem _ (List.mem_append_right _ h)) (by decide) rfl (by decide +kernel) dX8_sheet_49 ?_
          refine s_iload_n C 1 dX8_sheet_52 rfl ?_
          refine s_iload_n C 2 dX8_sheet_53 rfl ?_
          refine s_iastore C 8 (sn) rfl rfl (by omega) (by decide) (by decide) rfl dX8_sheet_54 ?_
          refine m_w hM (fun S hM => ?_)
          refine s_aload_n C 0 dX8_sheet_55 rfl ?_
          refine s_getR C 8 3 (hM.1 _ _ _ rfl) (by decide) rfl (by decide) rfl (fun _ h => List.mem_cons_of_mem _ (List.mem_append_right _ h)) (by decide) rfl (by decide +kernel) dX8_sheet_56 ?_
          refine s_iload_n C 1 dX8_sheet_59 rfl ?_
          refine s_iload_n C 3 dX8_sheet_60 rfl ?_
          refine s_iastore C 8 (sn) rfl rfl (by omega) (by decide) (by decide) rfl dX8_sheet_61 ?_
          refine m_w hM (fun S hM => ?_)
          refine s_iconst (v := nI 0) C dX8_sheet_62 (by decide) ?_
          refine s_istore (lv' := [(4, .int (nI 0)), (0, .ref (w.2.2 0)), (1, .int (nI sn)), (2, .int l_), (3, .int n)]) C dX8_sheet_63 (by decide) rfl ?_
          have hx_65 : ∀ S, ih_RM S (ih_fill (ih_u2 (ih_u2 (ih_u2 T 0 1 (nI 0)) 1 sn l_) 2 sn n) 3 (60 * sn) (nI 0) (60)) → ih_Mw x w ih_shM A Q 5 0 0 91 [(0, .ref (w.2.2 0)), (1, .int (nI sn)), (2, .int l_), (3, .int n), (4, .int (nI 60))] [] S := by
            intro S hM
            refine s_iload_n C 3 dX8_sheet_91 rfl ?_
            rw [hQ]
            exact s_ireturn C hA dX8_sheet_92 (by rw [sp_sheet, ih_n_nI hsn, if_pos (by omega), if_neg (by omega)]; exact ⟨rfl, hM⟩)
          have loop_65 : ∀ (fu k : Nat), k + fu = 60 → ∀ S, ih_RM S (ih_fill (ih_u2 (ih_u2 (ih_u2 T 0 1 (nI 0)) 1 sn l_) 2 sn n) 3 (60 * sn) (nI 0) (k)) → ih_Mw x w ih_shM A Q 5 0 0 65 [(0, .ref (w.2.2 0)), (1, .int (nI sn)), (2, .int l_), (3, .int n), (4, .int (nI k))] [] S := by
            intro fu
            induction fu with
            | zero =>
              intro k hke S hM
              have hk0 : k = 60 := by omega
              refine s_iload C 4 dX8_sheet_65 rfl ?_
              refine s_bipush (v := nI 60) C dX8_sheet_67 (by decide) ?_
              refine s_icmp_geN 91 C dX8_sheet_69 (by decide) (by omega) (by omega) (fun h69 => ?_) (fun h69 => ?_)
              · subst hk0
                exact hx_65 _ hM
              · exfalso; omega
            | succ fu ih_65 =>
              intro k hke S hM
              have hkl : k < 60 := by omega
              refine s_iload C 4 dX8_sheet_65 rfl ?_
              refine s_bipush (v := nI 60) C dX8_sheet_67 (by decide) ?_
              refine s_icmp_geN 91 C dX8_sheet_69 (by decide) (by omega) (by omega) (fun h69 => ?_) (fun h69 => ?_)
              · exfalso; omega
              · refine s_aload_n C 0 dX8_sheet_72 rfl ?_
                refine s_getR C 8 4 (hM.1 _ _ _ rfl) (by decide) rfl (by decide) rfl (fun _ h => List.mem_cons_of_mem _ (List.mem_append_right _ h)) (by decide) rfl (by decide +kernel) dX8_sheet_73 ?_
                refine s_bipush (v := nI 60) C dX8_sheet_76 (by decide) ?_
                refine s_iload_n C 1 dX8_sheet_78 rfl ?_
                refine s_imulN C dX8_sheet_79 ?_
                refine s_iload C 4 dX8_sheet_80 rfl ?_
                refine s_iaddN C dX8_sheet_82 ?_
                refine s_iconst (v := nI 0) C dX8_sheet_83 (by decide) ?_
                refine s_iastore C 480 ((60 * sn) + k) rfl rfl (by omega) (by decide) (by decide) rfl dX8_sheet_84 ?_
                refine m_w hM (fun S hM => ?_)
                refine s_iinc (u := nI (k + 1)) (lv' := [(4, .int (nI (k + 1))), (0, .ref (w.2.2 0)), (1, .int (nI sn)), (2, .int l_), (3, .int n)]) C 4 dX8_sheet_85 rfl (ih_incN (by decide)) (by decide) rfl ?_
                refine s_goto C 65 dX8_sheet_88 (by decide) ?_
                refine s_perm [1, 2, 3, 4, 0] rfl ?_
                exact ih_65 (k + 1) (by omega) _ hM
          refine s_perm [1, 2, 3, 4, 0] rfl ?_
          exact loop_65 (60) 0 (by omega) _ hM
        · simp only [ih_lei, ih_lti, ih_t0] at h39
          refine s_aload_n C 0 dX8_sheet_42 rfl ?_
          refine s_iconst (v := nI 4) C dX8_sheet_43 (by decide) ?_
          refine s_callVi 1 C (c_X8_found _ w _ _) gX8_sheet_X8_found rfl (by decide +kernel) (by decide) (by decide) (by decide) rfl (by decide) rfl rfl rfl (Nat.le_of_ble_eq_true rfl) dX8_sheet_44 ?_
          rintro rf S2 ⟨hrf, rfl⟩
          refine m_w hM (fun S hM => ?_)
          rw [hQ]
          exact s_ireturn C hA dX8_sheet_47 (by rw [sp_sheet, if_pos (by omega), if_pos (by omega)]; exact ⟨hrf, hM⟩)
      · simp only [ih_lei, ih_lti, ih_t0, ih_t (n := 60) (by omega)] at h27
        refine s_ldc (v := (-1000001)) C (by decide +kernel) dX8_sheet_30 ?_
        rw [hQ]
        exact s_ireturn C hA dX8_sheet_32 (by rw [sp_sheet, if_neg (by omega)]; exact ⟨rfl, hM⟩)

set_option maxHeartbeats 4000000 in
set_option maxRecDepth 100000 in
theorem c_X8_set (l : Launch) (w : ih_Wd) (S : ih_Sg) (T : ih_TT) (hM : ih_RM S T) (hI : ih_Inv T) (s i v : Int32) : ih_Ci l yX8_set wsX8_set 2 w ih_shM [.ref (w.2.2 0), .int s, .int i, .int v] S (fun r S' => r = (sp_set T s i v).1 ∧ ih_RM S' (sp_set T s i v).2) := by
  refine ih_bodyi (ret := some .int) rfl rfl (Nat.le_of_ble_eq_true rfl) ?_
  intro x A hA C
  have C : ih_Ok x w A cX8_set 4 RX8 wsX8_set (ih_rm 2) (some .int) := C
  show ih_Mw x w ih_shM A (ih_Qi x w ih_shM A _) 4 0 0 0 [(0, .ref (w.2.2 0)), (1, .int s), (2, .int i), (3, .int v)] [] S
  refine s_aload_n C 0 dX8_set_0 rfl ?_
  refine s_iconst (v := nI 0) C dX8_set_1 (by decide) ?_
  refine s_putI (ty := .int) C 8 0 tyX8 tyX8_ok nmX8 (by decide) rfl (by decide) rfl (fun _ h => List.mem_cons_of_mem _ (List.mem_append_right _ h)) (by decide) rfl (by decide +kernel) rfl (by decide +kernel) rfl rfl dX8_set_2 ?_
  refine m_hide hM rfl (fun S hM => ?_)
  refine s_iload_n C 1 dX8_set_5 rfl ?_
  refine s_callSi 1 C (c_X8_isSheet _ w _ _) gX8_set_X8_isSheet rfl (by decide +kernel) (by decide) (by decide) rfl rfl (Nat.le_of_ble_eq_true rfl) dX8_set_6 ?_
  rintro rs6 S2 ⟨hrs6, rfl⟩
  refine s_if_ne C 15 dX8_set_9 (by decide) (fun h9 => ?_) (fun h9 => ?_)
  · replace h9 := ih_b1 hrs6 h9
    obtain ⟨sn, hsn, rfl, hsnt⟩ := ih_nat (a := s) h9.1
    have hsnb : sn < 8 := by omega
    have hmn : ih_mn T sn ≤ 60 := (hI.1 sn (by omega)).2.2
    refine s_aload_n C 0 dX8_set_15 rfl ?_
    refine s_iconst (v := nI 0) C dX8_set_16 (by decide) ?_
    refine s_putI (ty := .int) C 8 1 tyX8 tyX8_ok nmX8 (by decide) rfl (by decide) rfl (fun _ h => List.mem_cons_of_mem _ (List.mem_append_right _ h)) (by decide) rfl (by decide +kernel) rfl (by decide +kernel) rfl rfl dX8_set_17 ?_
    refine m_w hM (fun S hM => ?_)
    refine s_aload_n C 0 dX8_set_20 rfl ?_
    refine s_getR C 8 2 (hM.1 _ _ _ rfl) (by decide) rfl (by decide) rfl (fun _ h => List.mem_cons_of_mem _ (List.mem_append_right _ h)) (by decide) rfl (by decide +kernel) dX8_set_21 ?_
    refine s_iload_n C 1 dX8_set_24 rfl ?_
    refine s_iaload C 8 (sn) rfl rfl (by omega) (by decide) (by decide) rfl dX8_set_25 ?_
    refine s_toe (b := T 1 sn) (hM.2 _ _ rfl) ?_
    refine s_if_ge C 35 dX8_set_26 (by decide) (fun h26 => ?_) (fun h26 => ?_)
    · simp only [ih_lei, ih_lti, ih_t0] at h26
      refine s_iload_n C 2 dX8_set_35 rfl ?_
      refine s_i2l C dX8_set_36 ?_
      refine s_lconst (v := lN 0) C dX8_set_37 rfl ?_
      refine s_aload_n C 0 dX8_set_38 rfl ?_
      refine s_getR C 8 3 (hM.1 _ _ _ rfl) (by decide) rfl (by decide) rfl (fun _ h => List.mem_cons_of_mem _ (List.mem_append_right _ h)) (by decide) rfl (by decide +kernel) dX8_set_39 ?_
      refine s_iload_n C 1 dX8_set_42 rfl ?_
      refine s_iaload C 8 (sn) rfl rfl (by omega) (by decide) (by decide) rfl dX8_set_43 ?_
      refine s_toe (b := T 2 sn) (hM.2 _ _ rfl) ?_
      refine s_toe (b := nI (ih_mn T sn)) (hI.1 sn (by omega)).2.1 ?_
      refine s_iconst (v := nI 1) C dX8_set_44 (by decide) ?_
      refine s_isub C dX8_set_45  ?_
      refine s_i2l C dX8_set_46 ?_
      refine s_callSi 3 C (c_X8_in _ w _ _ _ _ _) gX8_set_X8_in rfl (by decide +kernel) (by decide) (by decide) rfl rfl (Nat.le_of_ble_eq_true rfl) dX8_set_47 ?_
      rintro rb47 S2 ⟨hrb47, rfl⟩
      rw [ih_wide, ih_wide, ih_tl (by decide), ih_m1 (by omega)] at hrb47
      refine s_if_ne C 59 dX8_set_50 (by decide) (fun h50 => ?_) (fun h50 => ?_)
      · replace h50 := ih_b1 hrb47 h50
        obtain ⟨ik, hik, rfl, hikt⟩ := ih_nat (a := i) h50.1
        have hikb : ik < 60 := by omega
        refine s_aload_n C 0 dX8_set_59 rfl ?_
        refine s_getR C 8 4 (hM.1 _ _ _ rfl) (by decide) rfl (by decide) rfl (fun _ h => List.mem_cons_of_mem _ (List.mem_append_right _ h)) (by decide) rfl (by decide +kernel) dX8_set_60 ?_
        refine s_bipush (v := nI 60) C dX8_set_63 (by decide) ?_
        refine s_iload_n C 1 dX8_set_65 rfl ?_
        refine s_imulN C dX8_set_66 ?_
        refine s_iload_n C 2 dX8_set_67 rfl ?_
        refine s_iaddN C dX8_set_68 ?_
        refine s_aload_n C 0 dX8_set_69 rfl ?_
        refine s_getR C 8 2 (hM.1 _ _ _ rfl) (by decide) rfl (by decide) rfl (fun _ h => List.mem_cons_of_mem _ (List.mem_append_right _ h)) (by decide) rfl (by decide +kernel) dX8_set_70 ?_
        refine s_iload_n C 1 dX8_set_73 rfl ?_
        refine s_iaload C 8 (sn) rfl rfl (by omega) (by decide) (by decide) rfl dX8_set_74 ?_
        refine s_toe (b := T 1 sn) (hM.2 _ _ rfl) ?_
        refine s_if_ne C 83 dX8_set_75 (by decide) (fun h75 => ?_) (fun h75 => ?_)
        · refine s_aload_n C 0 dX8_set_83 rfl ?_
          refine s_getR C 8 2 (hM.1 _ _ _ rfl) (by decide) rfl (by decide) rfl (fun _ h => List.mem_cons_of_mem _ (List.mem_append_right _ h)) (by decide) rfl (by decide +kernel) dX8_set_84 ?_
          refine s_iload_n C 1 dX8_set_87 rfl ?_
          refine s_iaload C 8 (sn) rfl rfl (by omega) (by decide) (by decide) rfl dX8_set_88 ?_
          refine s_toe (b := T 1 sn) (hM.2 _ _ rfl) ?_
          refine s_iconst (v := nI 1) C dX8_set_89 (by decide) ?_
          refine s_icmp_ne C 98 dX8_set_90 (by decide) (fun h90 => ?_) (fun h90 => ?_)
          · refine s_iload_n C 3 dX8_set_98 rfl ?_
            refine s_toe (b := ih_cut (T 1 sn) v) (by rw [ih_cut, if_neg h75, if_neg h90]) ?_
            refine s_iastore C 480 ((60 * sn) + ik) rfl rfl (by omega) (by decide) (by decide) rfl dX8_set_99 ?_
            refine m_w hM (fun S hM => ?_)
            refine s_aload_n C 0 dX8_set_100 rfl ?_
            refine s_getR C 8 4 (hM.1 _ _ _ rfl) (by decide) rfl (by decide) rfl (fun _ h => List.mem_cons_of_mem _ (List.mem_append_right _ h)) (by decide) rfl (by decide +kernel) dX8_set_101 ?_
            refine s_bipush (v := nI 60) C dX8_set_104 (by decide) ?_
            refine s_iload_n C 1 dX8_set_106 rfl ?_
            refine s_imulN C dX8_set_107 ?_
            refine s_iload_n C 2 dX8_set_108 rfl ?_
            refine s_iaddN C dX8_set_109 ?_
            refine s_iaload C 480 ((60 * sn) + ik) rfl rfl (by omega) (by decide) (by decide) rfl dX8_set_110 ?_
            refine s_toe (b := ih_cut (T 1 sn) v) ((hM.2 _ _ rfl).trans ih_u2_s) ?_
            exact s_ireturn C hA dX8_set_111 (by rw [sp_set, ih_n_nI hsn, ih_n_nI hik, if_pos (by omega), if_neg (by omega), if_pos (by omega)]; exact ⟨rfl, hM⟩)
          · refine s_iload_n C 3 dX8_set_93 rfl ?_
            refine s_i2s C dX8_set_94 ?_
            refine s_goto C 99 dX8_set_95 (by decide) ?_
            refine s_toe (b := ih_cut (T 1 sn) v) (by rw [ih_cut, if_neg h75, if_pos h90]) ?_
            refine s_iastore C 480 ((60 * sn) + ik) rfl rfl (by omega) (by decide) (by decide) rfl dX8_set_99 ?_
            refine m_w hM (fun S hM => ?_)
            refine s_aload_n C 0 dX8_set_100 rfl ?_
            refine s_getR C 8 4 (hM.1 _ _ _ rfl) (by decide) rfl (by decide) rfl (fun _ h => List.mem_cons_of_mem _ (List.mem_append_right _ h)) (by decide) rfl (by decide +kernel) dX8_set_101 ?_
            refine s_bipush (v := nI 60) C dX8_set_104 (by decide) ?_
            refine s_iload_n C 1 dX8_set_106 rfl ?_
            refine s_imulN C dX8_set_107 ?_
            refine s_iload_n C 2 dX8_set_108 rfl ?_
            refine s_iaddN C dX8_set_109 ?_
            refine s_iaload C 480 ((60 * sn) + ik) rfl rfl (by omega) (by decide) (by decide) rfl dX8_set_110 ?_
            refine s_toe (b := ih_cut (T 1 sn) v) ((hM.2 _ _ rfl).trans ih_u2_s) ?_
            exact s_ireturn C hA dX8_set_111 (by rw [sp_set, ih_n_nI hsn, ih_n_nI hik, if_pos (by omega), if_neg (by omega), if_pos (by omega)]; exact ⟨rfl, hM⟩)
        · refine s_iload_n C 3 dX8_set_78 rfl ?_
          refine s_i2b C dX8_set_79 ?_
          refine s_goto C 99 dX8_set_80 (by decide) ?_
          refine s_toe (b := ih_cut (T 1 sn) v) (by rw [ih_cut, if_pos h75]) ?_
          refine s_iastore C 480 ((60 * sn) + ik) rfl rfl (by omega) (by decide) (by decide) rfl dX8_set_99 ?_
          refine m_w hM (fun S hM => ?_)
          refine s_aload_n C 0 dX8_set_100 rfl ?_
          refine s_getR C 8 4 (hM.1 _ _ _ rfl) (by decide) rfl (by decide) rfl (fun _ h => List.mem_cons_of_mem _ (List.mem_append_right _ h)) (by decide) rfl (by decide +kernel) dX8_set_101 ?_
          refine s_bipush (v := nI 60) C dX8_set_104 (by decide) ?_
          refine s_iload_n C 1 dX8_set_106 rfl ?_
          refine s_imulN C dX8_set_107 ?_
          refine s_iload_n C 2 dX8_set_108 rfl ?_
          refine s_iaddN C dX8_set_109 ?_
          refine s_iaload C 480 ((60 * sn) + ik) rfl rfl (by omega) (by decide) (by decide) rfl dX8_set_110 ?_
          refine s_toe (b := ih_cut (T 1 sn) v) ((hM.2 _ _ rfl).trans ih_u2_s) ?_
          exact s_ireturn C hA dX8_set_111 (by rw [sp_set, ih_n_nI hsn, ih_n_nI hik, if_pos (by omega), if_neg (by omega), if_pos (by omega)]; exact ⟨rfl, hM⟩)
      · replace h50 := ih_b0 hrb47 h50
        refine s_aload_n C 0 dX8_set_53 rfl ?_
        refine s_iconst (v := nI 2) C dX8_set_54 (by decide) ?_
        refine s_callVi 1 C (c_X8_found _ w _ _) gX8_set_X8_found rfl (by decide +kernel) (by decide) (by decide) (by decide) rfl (by decide) rfl rfl rfl (Nat.le_of_ble_eq_true rfl) dX8_set_55 ?_
        rintro rf S2 ⟨hrf, rfl⟩
        refine m_w hM (fun S hM => ?_)
        exact s_ireturn C hA dX8_set_58 (by rw [sp_set, ih_n_nI hsn, if_pos (by omega), if_neg (by omega), if_neg (by omega)]; exact ⟨hrf, hM⟩)
    · simp only [ih_lei, ih_lti, ih_t0] at h26
      refine s_aload_n C 0 dX8_set_29 rfl ?_
      refine s_iconst (v := nI 1) C dX8_set_30 (by decide) ?_
      refine s_callVi 1 C (c_X8_found _ w _ _) gX8_set_X8_found rfl (by decide +kernel) (by decide) (by decide) (by decide) rfl (by decide) rfl rfl rfl (Nat.le_of_ble_eq_true rfl) dX8_set_31 ?_
      rintro rf S2 ⟨hrf, rfl⟩
      refine m_w hM (fun S hM => ?_)
      exact s_ireturn C hA dX8_set_34 (by rw [sp_set, ih_n_nI hsn, if_pos (by omega), if_pos (by omega)]; exact ⟨hrf, hM⟩)
  · replace h9 := ih_b0 hrs6 h9
    refine s_ldc (v := (-1000001)) C (by decide +kernel) dX8_set_12 ?_
    exact s_ireturn C hA dX8_set_14 (by rw [sp_set, if_neg (by omega)]; exact ⟨rfl, hM⟩)

set_option maxHeartbeats 4000000 in
set_option maxRecDepth 100000 in
theorem c_X8_drop (l : Launch) (w : ih_Wd) (S : ih_Sg) (T : ih_TT) (hM : ih_RM S T) (hI : ih_Inv T) (s : Int32) : ih_Ci l yX8_drop wsX8_drop 2 w ih_shM [.ref (w.2.2 0), .int s] S (fun r S' => r = (sp_drop T s).1 ∧ ih_RM S' (sp_drop T s).2) := by
  refine ih_bodyi (ret := some .int) rfl rfl (Nat.le_of_ble_eq_true rfl) ?_
  intro x A hA C
  have C : ih_Ok x w A cX8_drop 2 RX8 wsX8_drop (ih_rm 2) (some .int) := C
  show ih_Mw x w ih_shM A (ih_Qi x w ih_shM A _) 2 0 0 0 [(0, .ref (w.2.2 0)), (1, .int s)] [] S
  refine s_aload_n C 0 dX8_drop_0 rfl ?_
  refine s_iconst (v := nI 0) C dX8_drop_1 (by decide) ?_
  refine s_putI (ty := .int) C 8 0 tyX8 tyX8_ok nmX8 (by decide) rfl (by decide) rfl (fun _ h => List.mem_cons_of_mem _ (List.mem_append_right _ h)) (by decide) rfl (by decide +kernel) rfl (by decide +kernel) rfl rfl dX8_drop_2 ?_
  refine m_hide hM rfl (fun S hM => ?_)
  refine s_iload_n C 1 dX8_drop_5 rfl ?_
  refine s_callSi 1 C (c_X8_isSheet _ w _ _) gX8_drop_X8_isSheet rfl (by decide +kernel) (by decide) (by decide) rfl rfl (Nat.le_of_ble_eq_true rfl) dX8_drop_6 ?_
  rintro rs6 S2 ⟨hrs6, rfl⟩
  refine s_if_ne C 15 dX8_drop_9 (by decide) (fun h9 => ?_) (fun h9 => ?_)
  · replace h9 := ih_b1 hrs6 h9
    obtain ⟨sn, hsn, rfl, hsnt⟩ := ih_nat (a := s) h9.1
    have hsnb : sn < 8 := by omega
    refine s_aload_n C 0 dX8_drop_15 rfl ?_
    refine s_iconst (v := nI 0) C dX8_drop_16 (by decide) ?_
    refine s_putI (ty := .int) C 8 1 tyX8 tyX8_ok nmX8 (by decide) rfl (by decide) rfl (fun _ h => List.mem_cons_of_mem _ (List.mem_append_right _ h)) (by decide) rfl (by decide +kernel) rfl (by decide +kernel) rfl rfl dX8_drop_17 ?_
    refine m_w hM (fun S hM => ?_)
    refine s_aload_n C 0 dX8_drop_20 rfl ?_
    refine s_getR C 8 2 (hM.1 _ _ _ rfl) (by decide) rfl (by decide) rfl (fun _ h => List.mem_cons_of_mem _ (List.mem_append_right _ h)) (by decide) rfl (by decide +kernel) dX8_drop_21 ?_
    refine s_iload_n C 1 dX8_drop_24 rfl ?_
    refine s_iaload C 8 (sn) rfl rfl (by omega) (by decide) (by decide) rfl dX8_drop_25 ?_
    refine s_toe (b := T 1 sn) (hM.2 _ _ rfl) ?_
    refine s_if_ge C 35 dX8_drop_26 (by decide) (fun h26 => ?_) (fun h26 => ?_)
    · simp only [ih_lei, ih_lti, ih_t0] at h26
      refine s_aload_n C 0 dX8_drop_35 rfl ?_
      refine s_getR C 8 2 (hM.1 _ _ _ rfl) (by decide) rfl (by decide) rfl (fun _ h => List.mem_cons_of_mem _ (List.mem_append_right _ h)) (by decide) rfl (by decide +kernel) dX8_drop_36 ?_
      refine s_iload_n C 1 dX8_drop_39 rfl ?_
      refine s_iconst (v := (-1)) C dX8_drop_40 (by decide) ?_
      refine s_iastore C 8 (sn) rfl rfl (by omega) (by decide) (by decide) rfl dX8_drop_41 ?_
      refine m_w hM (fun S hM => ?_)
      refine s_aload_n C 0 dX8_drop_42 rfl ?_
      refine s_getR C 8 3 (hM.1 _ _ _ rfl) (by decide) rfl (by decide) rfl (fun _ h => List.mem_cons_of_mem _ (List.mem_append_right _ h)) (by decide) rfl (by decide +kernel) dX8_drop_43 ?_
      refine s_iload_n C 1 dX8_drop_46 rfl ?_
      refine s_iaload C 8 (sn) rfl rfl (by omega) (by decide) (by decide) rfl dX8_drop_47 ?_
      refine s_toe (b := T 2 sn) (hM.2 _ _ rfl) ?_
      exact s_ireturn C hA dX8_drop_48 (by rw [sp_drop, ih_n_nI hsn, if_pos (by omega), if_neg (by omega)]; exact ⟨rfl, hM⟩)
    · simp only [ih_lei, ih_lti, ih_t0] at h26
      refine s_aload_n C 0 dX8_drop_29 rfl ?_
      refine s_iconst (v := nI 1) C dX8_drop_30 (by decide) ?_
      refine s_callVi 1 C (c_X8_found _ w _ _) gX8_drop_X8_found rfl (by decide +kernel) (by decide) (by decide) (by decide) rfl (by decide) rfl rfl rfl (Nat.le_of_ble_eq_true rfl) dX8_drop_31 ?_
      rintro rf S2 ⟨hrf, rfl⟩
      refine m_w hM (fun S hM => ?_)
      exact s_ireturn C hA dX8_drop_34 (by rw [sp_drop, ih_n_nI hsn, if_pos (by omega), if_pos (by omega)]; exact ⟨hrf, hM⟩)
  · replace h9 := ih_b0 hrs6 h9
    refine s_ldc (v := (-1000001)) C (by decide +kernel) dX8_drop_12 ?_
    exact s_ireturn C hA dX8_drop_14 (by rw [sp_drop, if_neg (by omega)]; exact ⟨rfl, hM⟩)

set_option maxHeartbeats 4000000 in
set_option maxRecDepth 100000 in
theorem c_X8_behind (l : Launch) (w : ih_Wd) (S : ih_Sg) (T : ih_TT) (hM : ih_RM S T) (hI : ih_Inv T) (s a b : Int32) : ih_Ci l yX8_behind wsX8_behind 2 w ih_shM [.ref (w.2.2 0), .int s, .int a, .int b] S (fun r S' => r = sp_behind s a b ∧ ih_RM S' T) := by
  refine ih_bodyi (ret := some .int) rfl rfl (Nat.le_of_ble_eq_true rfl) ?_
  intro x A hA C
  have C : ih_Ok x w A cX8_behind 4 RX8 wsX8_behind (ih_rm 2) (some .int) := C
  show ih_Mw x w ih_shM A (ih_Qi x w ih_shM A _) 4 0 0 0 [(0, .ref (w.2.2 0)), (1, .int s), (2, .int a), (3, .int b)] [] S
  refine s_aload_n C 0 dX8_behind_0 rfl ?_
  refine s_iconst (v := nI 0) C dX8_behind_1 (by decide) ?_
  refine s_putI (ty := .int) C 8 0 tyX8 tyX8_ok nmX8 (by decide) rfl (by decide) rfl (fun _ h => List.mem_cons_of_mem _ (List.mem_append_right _ h)) (by decide) rfl (by decide +kernel) rfl (by decide +kernel) rfl rfl dX8_behind_2 ?_
  refine m_hide hM rfl (fun S hM => ?_)
  refine s_iload_n C 1 dX8_behind_5 rfl ?_
  refine s_i2l C dX8_behind_6 ?_
  refine s_lconst (v := lN 0) C dX8_behind_7 rfl ?_
  refine s_ldc2 (v := lN 23) C (by decide +kernel) dX8_behind_8 ?_
  refine s_callSi 3 C (c_X8_in _ w _ _ _ _ _) gX8_behind_X8_in rfl (by decide +kernel) (by decide) (by decide) rfl rfl (Nat.le_of_ble_eq_true rfl) dX8_behind_11 ?_
  rintro rb11 S2 ⟨hrb11, rfl⟩
  rw [ih_wide, ih_tl (by decide), ih_tl (by decide)] at hrb11
  refine s_if_eq C 39 dX8_behind_14 (by decide) (fun h14 => ?_) (fun h14 => ?_)
  · replace h14 := ih_b0 hrb11 h14
    refine s_ldc (v := (-1000001)) C (by decide +kernel) dX8_behind_39 ?_
    exact s_ireturn C hA dX8_behind_41 (by rw [sp_behind, if_neg (by omega)]; exact ⟨rfl, hM⟩)
  · replace h14 := ih_b1 hrb11 h14
    refine s_iload_n C 2 dX8_behind_17 rfl ?_
    refine s_i2l C dX8_behind_18 ?_
    refine s_lconst (v := lN 0) C dX8_behind_19 rfl ?_
    refine s_ldc2 (v := lN 8) C (by decide +kernel) dX8_behind_20 ?_
    refine s_callSi 3 C (c_X8_in _ w _ _ _ _ _) gX8_behind_X8_in rfl (by decide +kernel) (by decide) (by decide) rfl rfl (Nat.le_of_ble_eq_true rfl) dX8_behind_23 ?_
    rintro rb23 S2 ⟨hrb23, rfl⟩
    rw [ih_wide, ih_tl (by decide), ih_tl (by decide)] at hrb23
    refine s_if_eq C 39 dX8_behind_26 (by decide) (fun h26 => ?_) (fun h26 => ?_)
    · replace h26 := ih_b0 hrb23 h26
      refine s_ldc (v := (-1000001)) C (by decide +kernel) dX8_behind_39 ?_
      exact s_ireturn C hA dX8_behind_41 (by rw [sp_behind, if_neg (by omega)]; exact ⟨rfl, hM⟩)
    · replace h26 := ih_b1 hrb23 h26
      refine s_iload_n C 3 dX8_behind_29 rfl ?_
      refine s_i2l C dX8_behind_30 ?_
      refine s_lconst (v := lN 0) C dX8_behind_31 rfl ?_
      refine s_lconst (v := lN 1) C dX8_behind_32 rfl ?_
      refine s_callSi 3 C (c_X8_in _ w _ _ _ _ _) gX8_behind_X8_in rfl (by decide +kernel) (by decide) (by decide) rfl rfl (Nat.le_of_ble_eq_true rfl) dX8_behind_33 ?_
      rintro rb33 S2 ⟨hrb33, rfl⟩
      rw [ih_wide, ih_tl (by decide), ih_tl (by decide)] at hrb33
      refine s_if_ne C 42 dX8_behind_36 (by decide) (fun h36 => ?_) (fun h36 => ?_)
      · replace h36 := ih_b1 hrb33 h36
        obtain ⟨sn, hsn, rfl, hsnt⟩ := ih_nat (a := s) h14.1
        have hsnb : sn < 24 := by omega
        obtain ⟨an, han, rfl, hant⟩ := ih_nat (a := a) h26.1
        have hanb : an < 9 := by omega
        refine s_iload_n C 1 dX8_behind_42 rfl ?_
        refine s_iload_n C 2 dX8_behind_43 rfl ?_
        refine s_callSi 2 C (c_X8_mayBe _ w _ sn an (by omega) (by omega)) gX8_behind_X8_mayBe rfl (by decide +kernel) (by decide) (by decide) rfl rfl (Nat.le_of_ble_eq_true rfl) dX8_behind_44 ?_
        rintro rm44 S2 ⟨hrm44, rfl⟩
        refine s_if_ne C 55 dX8_behind_47 (by decide) (fun h47 => ?_) (fun h47 => ?_)
        · replace h47 := ih_b1 hrm44 h47
          refine s_iload_n C 3 dX8_behind_55 rfl ?_
          refine s_if_ne C 67 dX8_behind_56 (by decide) (fun h56 => ?_) (fun h56 => ?_)
          · refine s_iload_n C 1 dX8_behind_67 rfl ?_
            refine s_iload_n C 2 dX8_behind_68 rfl ?_
            refine s_callSi 2 C (c_X8_runs _ w _ sn an (by omega) (by omega)) gX8_behind_X8_runs rfl (by decide +kernel) (by decide) (by decide) rfl rfl (Nat.le_of_ble_eq_true rfl) dX8_behind_69 ?_
            rintro r S2 ⟨hr, rfl⟩
            exact s_ireturn C hA dX8_behind_72 (by rw [sp_behind, if_pos (by omega), ih_n_nI hsn, ih_n_nI han, if_pos h47]; exact ⟨by rw [hr]; first | rw [if_pos h56] | rw [if_neg h56], hM⟩)
          · refine s_iload_n C 1 dX8_behind_59 rfl ?_
            refine s_iload_n C 2 dX8_behind_60 rfl ?_
            refine s_callSi 2 C (c_X8_next _ w _ sn an (by omega) (by omega)) gX8_behind_X8_next rfl (by decide +kernel) (by decide) (by decide) rfl rfl (Nat.le_of_ble_eq_true rfl) dX8_behind_61 ?_
            rintro r S2 ⟨hr, rfl⟩
            refine s_goto C 72 dX8_behind_64 (by decide) ?_
            exact s_ireturn C hA dX8_behind_72 (by rw [sp_behind, if_pos (by omega), ih_n_nI hsn, ih_n_nI han, if_pos h47]; exact ⟨by rw [hr]; first | rw [if_pos h56] | rw [if_neg h56], hM⟩)
        · replace h47 := ih_b0 hrm44 h47
          refine s_ldc (v := (-1000000)) C (by decide +kernel) dX8_behind_50 ?_
          refine s_goto C 72 dX8_behind_52 (by decide) ?_
          exact s_ireturn C hA dX8_behind_72 (by rw [sp_behind, if_pos (by omega), ih_n_nI hsn, ih_n_nI han, if_neg h47]; exact ⟨rfl, hM⟩)
      · replace h36 := ih_b0 hrb33 h36
        refine s_ldc (v := (-1000001)) C (by decide +kernel) dX8_behind_39 ?_
        exact s_ireturn C hA dX8_behind_41 (by rw [sp_behind, if_neg (by omega)]; exact ⟨rfl, hM⟩)

set_option maxHeartbeats 4000000 in
set_option maxRecDepth 100000 in
theorem c_X8_settle (l : Launch) (w : ih_Wd) (S : ih_Sg) (T : ih_TT) (hM : ih_RM S T) (k : Nat) (hk : k < 12) : ih_Cv l yX8_settle wsX8_settle 0 w ih_shM [.ref (w.2.2 0), .int (nI k)] S (fun S' => ih_RM S' (ih_set1 T k)) := by
  refine ih_bodyv (ret := none) rfl rfl (Nat.le_of_ble_eq_true rfl) ?_
  intro x A hA C
  have C : ih_Ok x w A cX8_settle 2 RX8 wsX8_settle (ih_rm 0) (none) := C
  show ih_Mw x w ih_shM A (ih_Qv x w ih_shM A _) 2 0 0 0 [(0, .ref (w.2.2 0)), (1, .int (nI k))] [] S
  refine s_aload_n C 0 dX8_settle_0 rfl ?_
  refine s_getR C 8 6 (hM.1 _ _ _ rfl) (by decide) rfl (by decide) rfl (fun _ h => List.mem_cons_of_mem _ (List.mem_append_right _ h)) (by decide) rfl (by decide +kernel) dX8_settle_1 ?_
  refine s_bipush (v := nI 7) C dX8_settle_4 (by decide) ?_
  refine s_iload_n C 1 dX8_settle_6 rfl ?_
  refine s_imulN C dX8_settle_7 ?_
  refine s_sipush (v := nI 1000) C dX8_settle_8 (by decide) ?_
  refine s_aload_n C 0 dX8_settle_11 rfl ?_
  refine s_getR C 8 6 (hM.1 _ _ _ rfl) (by decide) rfl (by decide) rfl (fun _ h => List.mem_cons_of_mem _ (List.mem_append_right _ h)) (by decide) rfl (by decide +kernel) dX8_settle_12 ?_
  refine s_bipush (v := nI 7) C dX8_settle_15 (by decide) ?_
  refine s_iload_n C 1 dX8_settle_17 rfl ?_
  refine s_imulN C dX8_settle_18 ?_
  refine s_iconst (v := nI 1) C dX8_settle_19 (by decide) ?_
  refine s_iaddN C dX8_settle_20 ?_
  refine s_iaload C 84 ((7 * k) + 1) rfl rfl (by omega) (by decide) (by decide) rfl dX8_settle_21 ?_
  refine s_toe (b := T 4 ((7 * k) + 1)) (hM.2 _ _ rfl) ?_
  refine s_isub C dX8_settle_22  ?_
  refine s_aload_n C 0 dX8_settle_23 rfl ?_
  refine s_getR C 8 6 (hM.1 _ _ _ rfl) (by decide) rfl (by decide) rfl (fun _ h => List.mem_cons_of_mem _ (List.mem_append_right _ h)) (by decide) rfl (by decide +kernel) dX8_settle_24 ?_
  refine s_bipush (v := nI 7) C dX8_settle_27 (by decide) ?_
  refine s_iload_n C 1 dX8_settle_29 rfl ?_
  refine s_imulN C dX8_settle_30 ?_
  refine s_iconst (v := nI 2) C dX8_settle_31 (by decide) ?_
  refine s_iaddN C dX8_settle_32 ?_
  refine s_iaload C 84 ((7 * k) + 2) rfl rfl (by omega) (by decide) (by decide) rfl dX8_settle_33 ?_
  refine s_toe (b := T 4 ((7 * k) + 2)) (hM.2 _ _ rfl) ?_
  refine s_isub C dX8_settle_34  ?_
  refine s_aload_n C 0 dX8_settle_35 rfl ?_
  refine s_getR C 8 6 (hM.1 _ _ _ rfl) (by decide) rfl (by decide) rfl (fun _ h => List.mem_cons_of_mem _ (List.mem_append_right _ h)) (by decide) rfl (by decide +kernel) dX8_settle_36 ?_
  refine s_bipush (v := nI 7) C dX8_settle_39 (by decide) ?_
  refine s_iload_n C 1 dX8_settle_41 rfl ?_
  refine s_imulN C dX8_settle_42 ?_
  refine s_iconst (v := nI 3) C dX8_settle_43 (by decide) ?_
  refine s_iaddN C dX8_settle_44 ?_
  refine s_iaload C 84 ((7 * k) + 3) rfl rfl (by omega) (by decide) (by decide) rfl dX8_settle_45 ?_
  refine s_toe (b := T 4 ((7 * k) + 3)) (hM.2 _ _ rfl) ?_
  refine s_isub C dX8_settle_46  ?_
  refine s_aload_n C 0 dX8_settle_47 rfl ?_
  refine s_getR C 8 6 (hM.1 _ _ _ rfl) (by decide) rfl (by decide) rfl (fun _ h => List.mem_cons_of_mem _ (List.mem_append_right _ h)) (by decide) rfl (by decide +kernel) dX8_settle_48 ?_
  refine s_bipush (v := nI 7) C dX8_settle_51 (by decide) ?_
  refine s_iload_n C 1 dX8_settle_53 rfl ?_
  refine s_imulN C dX8_settle_54 ?_
  refine s_iconst (v := nI 4) C dX8_settle_55 (by decide) ?_
  refine s_iaddN C dX8_settle_56 ?_
  refine s_iaload C 84 ((7 * k) + 4) rfl rfl (by omega) (by decide) (by decide) rfl dX8_settle_57 ?_
  refine s_toe (b := T 4 ((7 * k) + 4)) (hM.2 _ _ rfl) ?_
  refine s_isub C dX8_settle_58  ?_
  refine s_aload_n C 0 dX8_settle_59 rfl ?_
  refine s_getR C 8 6 (hM.1 _ _ _ rfl) (by decide) rfl (by decide) rfl (fun _ h => List.mem_cons_of_mem _ (List.mem_append_right _ h)) (by decide) rfl (by decide +kernel) dX8_settle_60 ?_
  refine s_bipush (v := nI 7) C dX8_settle_63 (by decide) ?_
  refine s_iload_n C 1 dX8_settle_65 rfl ?_
  refine s_imulN C dX8_settle_66 ?_
  refine s_iconst (v := nI 5) C dX8_settle_67 (by decide) ?_
  refine s_iaddN C dX8_settle_68 ?_
  refine s_iaload C 84 ((7 * k) + 5) rfl rfl (by omega) (by decide) (by decide) rfl dX8_settle_69 ?_
  refine s_toe (b := T 4 ((7 * k) + 5)) (hM.2 _ _ rfl) ?_
  refine s_isub C dX8_settle_70  ?_
  refine s_iastore C 84 (7 * k) rfl rfl (by omega) (by decide) (by decide) rfl dX8_settle_71 ?_
  refine m_w hM (fun S hM => ?_)
  exact s_vreturn C hA dX8_settle_72 hM

set_option maxHeartbeats 4000000 in
set_option maxRecDepth 100000 in
theorem c_X8_chance (l : Launch) (w : ih_Wd) (S : ih_Sg) (T : ih_TT) (hM : ih_RM S T) (hI : ih_Inv T) (k a : Int32) : ih_Ci l yX8_chance wsX8_chance 2 w ih_shM [.ref (w.2.2 0), .int k, .int a] S (fun r S' => r = sp_chance T k a ∧ ih_RM S' T) := by
  refine ih_bodyi (ret := some .int) rfl rfl (Nat.le_of_ble_eq_true rfl) ?_
  intro x A hA C
  have C : ih_Ok x w A cX8_chance 3 RX8 wsX8_chance (ih_rm 2) (some .int) := C
  show ih_Mw x w ih_shM A (ih_Qi x w ih_shM A _) 3 0 0 0 [(0, .ref (w.2.2 0)), (1, .int k), (2, .int a)] [] S
  have hct : ih_ct T ≤ 12 := hI.2.1.2.1
  refine s_aload_n C 0 dX8_chance_0 rfl ?_
  refine s_iconst (v := nI 0) C dX8_chance_1 (by decide) ?_
  refine s_putI (ty := .int) C 8 0 tyX8 tyX8_ok nmX8 (by decide) rfl (by decide) rfl (fun _ h => List.mem_cons_of_mem _ (List.mem_append_right _ h)) (by decide) rfl (by decide +kernel) rfl (by decide +kernel) rfl rfl dX8_chance_2 ?_
  refine m_hide hM rfl (fun S hM => ?_)
  refine s_aload_n C 0 dX8_chance_5 rfl ?_
  refine s_iload_n C 1 dX8_chance_6 rfl ?_
  refine s_callVi 1 C (c_X8_isStriker _ w _ hM hI _) gX8_chance_X8_isStriker rfl (by decide +kernel) (by decide) (by decide) (by decide) rfl (by decide) rfl rfl rfl (Nat.le_of_ble_eq_true rfl) dX8_chance_7 ?_
  rintro rk7 S2 ⟨hrk7, rfl⟩
  refine s_if_eq C 25 dX8_chance_10 (by decide) (fun h10 => ?_) (fun h10 => ?_)
  · replace h10 := ih_b0 hrk7 h10
    refine s_ldc (v := (-1000001)) C (by decide +kernel) dX8_chance_25 ?_
    refine s_goto C 41 dX8_chance_27 (by decide) ?_
    exact s_ireturn C hA dX8_chance_41 (by rw [sp_chance, if_neg (by omega)]; exact ⟨rfl, hM⟩)
  · replace h10 := ih_b1 hrk7 h10
    refine s_iload_n C 2 dX8_chance_13 rfl ?_
    refine s_i2l C dX8_chance_14 ?_
    refine s_lconst (v := lN 0) C dX8_chance_15 rfl ?_
    refine s_ldc2 (v := lN 6) C (by decide +kernel) dX8_chance_16 ?_
    refine s_callSi 3 C (c_X8_in _ w _ _ _ _ _) gX8_chance_X8_in rfl (by decide +kernel) (by decide) (by decide) rfl rfl (Nat.le_of_ble_eq_true rfl) dX8_chance_19 ?_
    rintro rb19 S2 ⟨hrb19, rfl⟩
    rw [ih_wide, ih_tl (by decide), ih_tl (by decide)] at hrb19
    refine s_if_ne C 30 dX8_chance_22 (by decide) (fun h22 => ?_) (fun h22 => ?_)
    · replace h22 := ih_b1 hrb19 h22
      obtain ⟨kn, hkn, rfl, hknt⟩ := ih_nat (a := k) h10.1
      obtain ⟨an, han, rfl, hant⟩ := ih_nat (a := a) h22.1
      have hanb : an < 7 := by omega
      refine s_aload_n C 0 dX8_chance_30 rfl ?_
      refine s_getR C 8 6 (hM.1 _ _ _ rfl) (by decide) rfl (by decide) rfl (fun _ h => List.mem_cons_of_mem _ (List.mem_append_right _ h)) (by decide) rfl (by decide +kernel) dX8_chance_31 ?_
      refine s_bipush (v := nI 7) C dX8_chance_34 (by decide) ?_
      refine s_iload_n C 1 dX8_chance_36 rfl ?_
      refine s_imulN C dX8_chance_37 ?_
      refine s_iload_n C 2 dX8_chance_38 rfl ?_
      refine s_iaddN C dX8_chance_39 ?_
      refine s_iaload C 84 ((7 * kn) + an) rfl rfl (by omega) (by decide) (by decide) rfl dX8_chance_40 ?_
      refine s_toe (b := T 4 ((7 * kn) + an)) (hM.2 _ _ rfl) ?_
      exact s_ireturn C hA dX8_chance_41 (by rw [sp_chance, if_pos (by omega), ih_n_nI hkn, ih_n_nI han]; exact ⟨rfl, hM⟩)
    · replace h22 := ih_b0 hrb19 h22
      refine s_ldc (v := (-1000001)) C (by decide +kernel) dX8_chance_25 ?_
      refine s_goto C 41 dX8_chance_27 (by decide) ?_
      exact s_ireturn C hA dX8_chance_41 (by rw [sp_chance, if_neg (by omega)]; exact ⟨rfl, hM⟩)

set_option maxHeartbeats 4000000 in
set_option maxRecDepth 100000 in
theorem c_X8_striking (l : Launch) (w : ih_Wd) (S : ih_Sg) (T : ih_TT) (hM : ih_RM S T) (hI : ih_Inv T) (p : Int32) : ih_Ci l yX8_striking wsX8_striking 1 w ih_shM [.ref (w.2.2 0), .int p] S (fun r S' => r = sp_striking T p ∧ ih_RM S' T) := by
  refine ih_bodyi (ret := some .int) rfl rfl (Nat.le_of_ble_eq_true rfl) ?_
  intro x A hA C
  have C : ih_Ok x w A cX8_striking 2 RX8 wsX8_striking (ih_rm 1) (some .int) := C
  show ih_Mw x w ih_shM A (ih_Qi x w ih_shM A _) 2 0 0 0 [(0, .ref (w.2.2 0)), (1, .int p)] [] S
  have hpl : ih_pl T ≤ 9 := hI.2.2.1.2.1
  refine s_aload_n C 0 dX8_striking_0 rfl ?_
  refine s_iconst (v := nI 0) C dX8_striking_1 (by decide) ?_
  refine s_putI (ty := .int) C 8 0 tyX8 tyX8_ok nmX8 (by decide) rfl (by decide) rfl (fun _ h => List.mem_cons_of_mem _ (List.mem_append_right _ h)) (by decide) rfl (by decide +kernel) rfl (by decide +kernel) rfl rfl dX8_striking_2 ?_
  refine m_hide hM rfl (fun S hM => ?_)
  refine s_iload_n C 1 dX8_striking_5 rfl ?_
  refine s_ldc (v := (-1000000)) C (by decide +kernel) dX8_striking_6 ?_
  refine s_icmp_ne C 18 dX8_striking_8 (by decide) (fun h8 => ?_) (fun h8 => ?_)
  · refine s_iload_n C 1 dX8_striking_18 rfl ?_
    refine s_i2l C dX8_striking_19 ?_
    refine s_lconst (v := lN 0) C dX8_striking_20 rfl ?_
    refine s_aload_n C 0 dX8_striking_21 rfl ?_
    refine s_getI C 8 7 (by decide) rfl (by decide) rfl (fun _ h => List.mem_cons_of_mem _ (List.mem_append_right _ h)) (by decide) rfl (by decide +kernel) dX8_striking_22 ?_
    refine s_toe (b := T 0 7) (hM.2 _ _ rfl) ?_
    refine s_toe (b := nI (ih_pl T)) hI.2.2.1.1 ?_
    refine s_iconst (v := nI 1) C dX8_striking_25 (by decide) ?_
    refine s_isub C dX8_striking_26  ?_
    refine s_i2l C dX8_striking_27 ?_
    refine s_callSi 3 C (c_X8_in _ w _ _ _ _ _) gX8_striking_X8_in rfl (by decide +kernel) (by decide) (by decide) rfl rfl (Nat.le_of_ble_eq_true rfl) dX8_striking_28 ?_
    rintro rb28 S2 ⟨hrb28, rfl⟩
    rw [ih_wide, ih_wide, ih_tl (by decide), ih_m1 (by omega)] at hrb28
    refine s_if_eq C 43 dX8_striking_31 (by decide) (fun h31 => ?_) (fun h31 => ?_)
    · replace h31 := ih_b0 hrb28 h31
      refine s_ldc (v := (-1000001)) C (by decide +kernel) dX8_striking_43 ?_
      exact s_ireturn C hA dX8_striking_45 (by rw [sp_striking, if_neg h8, if_neg (by omega)]; exact ⟨rfl, hM⟩)
    · replace h31 := ih_b1 hrb28 h31
      obtain ⟨pn, hpn, rfl, hpnt⟩ := ih_nat (a := p) h31.1
      have hpnb : pn < 9 := by omega
      refine s_aload_n C 0 dX8_striking_34 rfl ?_
      refine s_getR C 8 8 (hM.1 _ _ _ rfl) (by decide) rfl (by decide) rfl (fun _ h => List.mem_cons_of_mem _ (List.mem_append_right _ h)) (by decide) rfl (by decide +kernel) dX8_striking_35 ?_
      refine s_iload_n C 1 dX8_striking_38 rfl ?_
      refine s_iaload C 9 (pn) rfl rfl (by omega) (by decide) (by decide) rfl dX8_striking_39 ?_
      refine s_toe (b := T 5 pn) (hM.2 _ _ rfl) ?_
      refine s_goto C 45 dX8_striking_40 (by decide) ?_
      exact s_ireturn C hA dX8_striking_45 (by rw [sp_striking, if_neg h8, if_pos (by omega), ih_n_nI hpn]; exact ⟨rfl, hM⟩)
  · refine s_aload_n C 0 dX8_striking_11 rfl ?_
    refine s_getI C 8 7 (by decide) rfl (by decide) rfl (fun _ h => List.mem_cons_of_mem _ (List.mem_append_right _ h)) (by decide) rfl (by decide +kernel) dX8_striking_12 ?_
    refine s_toe (b := T 0 7) (hM.2 _ _ rfl) ?_
    refine s_goto C 45 dX8_striking_15 (by decide) ?_
    exact s_ireturn C hA dX8_striking_45 (by rw [sp_striking, if_pos h8]; exact ⟨rfl, hM⟩)

set_option maxHeartbeats 4000000 in
set_option maxRecDepth 100000 in
theorem c_X8_team (l : Launch) (w : ih_Wd) (S : ih_Sg) (T : ih_TT) (hM : ih_RM S T) (hI : ih_Inv T) (t k : Int32) : ih_Ci l yX8_team wsX8_team 2 w ih_shM [.ref (w.2.2 0), .int t, .int k] S (fun r S' => r = (sp_team T t k).1 ∧ ih_RM S' (sp_team T t k).2) := by
  refine ih_bodyi (ret := some .int) rfl rfl (Nat.le_of_ble_eq_true rfl) ?_
  intro x A hA C
  have C : ih_Ok x w A cX8_team 4 RX8 wsX8_team (ih_rm 2) (some .int) := C
  show ih_Mw x w ih_shM A (ih_Qi x w ih_shM A _) 4 0 0 0 [(0, .ref (w.2.2 0)), (1, .int t), (2, .int k)] [] S
  have hct : ih_ct T ≤ 12 := hI.2.1.2.1
  refine s_aload_n C 0 dX8_team_0 rfl ?_
  refine s_iconst (v := nI 0) C dX8_team_1 (by decide) ?_
  refine s_putI (ty := .int) C 8 0 tyX8 tyX8_ok nmX8 (by decide) rfl (by decide) rfl (fun _ h => List.mem_cons_of_mem _ (List.mem_append_right _ h)) (by decide) rfl (by decide +kernel) rfl (by decide +kernel) rfl rfl dX8_team_2 ?_
  refine m_hide hM rfl (fun S hM => ?_)
  refine s_iload_n C 1 dX8_team_5 rfl ?_
  refine s_i2l C dX8_team_6 ?_
  refine s_lconst (v := lN 0) C dX8_team_7 rfl ?_
  refine s_lconst (v := lN 1) C dX8_team_8 rfl ?_
  refine s_callSi 3 C (c_X8_in _ w _ _ _ _ _) gX8_team_X8_in rfl (by decide +kernel) (by decide) (by decide) rfl rfl (Nat.le_of_ble_eq_true rfl) dX8_team_9 ?_
  rintro rb9 S2 ⟨hrb9, rfl⟩
  rw [ih_wide, ih_tl (by decide), ih_tl (by decide)] at hrb9
  refine s_if_eq C 23 dX8_team_12 (by decide) (fun h12 => ?_) (fun h12 => ?_)
  · replace h12 := ih_b0 hrb9 h12
    refine s_ldc (v := (-1000001)) C (by decide +kernel) dX8_team_23 ?_
    exact s_ireturn C hA dX8_team_25 (by rw [sp_team, if_neg (by omega)]; exact ⟨rfl, hM⟩)
  · replace h12 := ih_b1 hrb9 h12
    refine s_aload_n C 0 dX8_team_15 rfl ?_
    refine s_iload_n C 2 dX8_team_16 rfl ?_
    refine s_callVi 1 C (c_X8_isStriker _ w _ hM hI _) gX8_team_X8_isStriker rfl (by decide +kernel) (by decide) (by decide) (by decide) rfl (by decide) rfl rfl rfl (Nat.le_of_ble_eq_true rfl) dX8_team_17 ?_
    rintro rk17 S2 ⟨hrk17, rfl⟩
    refine s_if_ne C 26 dX8_team_20 (by decide) (fun h20 => ?_) (fun h20 => ?_)
    · replace h20 := ih_b1 hrk17 h20
      obtain ⟨tn, htn, rfl, htnt⟩ := ih_nat (a := t) h12.1
      have htnb : tn < 2 := by omega
      refine s_aload_n C 0 dX8_team_26 rfl ?_
      refine s_getR C 8 12 (hM.1 _ _ _ rfl) (by decide) rfl (by decide) rfl (fun _ h => List.mem_cons_of_mem _ (List.mem_append_right _ h)) (by decide) rfl (by decide +kernel) dX8_team_27 ?_
      refine s_iload_n C 1 dX8_team_30 rfl ?_
      refine s_iaload C 2 (tn) rfl rfl (by omega) (by decide) (by decide) rfl dX8_team_31 ?_
      refine s_toe (b := T 9 tn) (hM.2 _ _ rfl) ?_
      refine s_topi (fun x3_1 ex3_1 => ?_)
      refine s_istore_n (lv' := [(3, .int x3_1), (0, .ref (w.2.2 0)), (1, .int (nI tn)), (2, .int k)]) C dX8_team_32 rfl (by decide) rfl ?_
      refine s_aload_n C 1 dX8_team_33 rfl ?_
      refine s_getR C 8 12 (hM.1 _ _ _ rfl) (by decide) rfl (by decide) rfl (fun _ h => List.mem_cons_of_mem _ (List.mem_append_right _ h)) (by decide) rfl (by decide +kernel) dX8_team_34 ?_
      refine s_iload_n C 2 dX8_team_37 rfl ?_
      refine s_iload_n C 3 dX8_team_38 rfl ?_
      refine s_iastore C 2 (tn) rfl rfl (by omega) (by decide) (by decide) rfl dX8_team_39 ?_
      refine m_w hM (fun S hM => ?_)
      refine s_iload_n C 0 dX8_team_40 rfl ?_
      exact s_ireturn C hA dX8_team_41 (by rw [sp_team, if_pos (by omega), ih_n_nI htn]; exact ⟨ex3_1, hM⟩)
    · replace h20 := ih_b0 hrk17 h20
      refine s_ldc (v := (-1000001)) C (by decide +kernel) dX8_team_23 ?_
      exact s_ireturn C hA dX8_team_25 (by rw [sp_team, if_neg (by omega)]; exact ⟨rfl, hM⟩)

set_option maxHeartbeats 4000000 in
set_option maxRecDepth 100000 in
theorem c_X8_status (l : Launch) (w : ih_Wd) (S : ih_Sg) (T : ih_TT) (hM : ih_RM S T) (hI : ih_Inv T) : ih_Ci l yX8_status wsX8_status 0 w ih_shM [.ref (w.2.2 0)] S (fun r S' => r = T 0 1 ∧ ih_RM S' T) := by
  refine ih_bodyi (ret := some .int) rfl rfl (Nat.le_of_ble_eq_true rfl) ?_
  intro x A hA C
  have C : ih_Ok x w A cX8_status 1 RX8 wsX8_status (ih_rm 0) (some .int) := C
  show ih_Mw x w ih_shM A (ih_Qi x w ih_shM A _) 1 0 0 0 [(0, .ref (w.2.2 0))] [] S
  refine s_aload_n C 0 dX8_status_0 rfl ?_
  refine s_iconst (v := nI 0) C dX8_status_1 (by decide) ?_
  refine s_putI (ty := .int) C 8 0 tyX8 tyX8_ok nmX8 (by decide) rfl (by decide) rfl (fun _ h => List.mem_cons_of_mem _ (List.mem_append_right _ h)) (by decide) rfl (by decide +kernel) rfl (by decide +kernel) rfl rfl dX8_status_2 ?_
  refine m_hide hM rfl (fun S hM => ?_)
  refine s_aload_n C 0 dX8_status_5 rfl ?_
  refine s_getI C 8 1 (by decide) rfl (by decide) rfl (fun _ h => List.mem_cons_of_mem _ (List.mem_append_right _ h)) (by decide) rfl (by decide +kernel) dX8_status_6 ?_
  refine s_toe (b := T 0 1) (hM.2 _ _ rfl) ?_
  exact s_ireturn C hA dX8_status_9 ⟨rfl, hM⟩

set_option maxHeartbeats 4000000 in
set_option maxRecDepth 100000 in
theorem c_X8_trace (l : Launch) (w : ih_Wd) (S : ih_Sg) (T : ih_TT) (hM : ih_RM S T) (hI : ih_Inv T) (i : Int32) : ih_Ci l yX8_trace wsX8_trace 1 w ih_shM [.ref (w.2.2 0), .int i] S (fun r S' => r = sp_trace T i ∧ ih_RM S' T) := by
  refine ih_bodyi (ret := some .int) rfl rfl (Nat.le_of_ble_eq_true rfl) ?_
  intro x A hA C
  have C : ih_Ok x w A cX8_trace 2 RX8 wsX8_trace (ih_rm 1) (some .int) := C
  show ih_Mw x w ih_shM A (ih_Qi x w ih_shM A _) 2 0 0 0 [(0, .ref (w.2.2 0)), (1, .int i)] [] S
  have htd : ih_td T ≤ 16 := hI.2.2.2.2.2
  refine s_aload_n C 0 dX8_trace_0 rfl ?_
  refine s_iconst (v := nI 0) C dX8_trace_1 (by decide) ?_
  refine s_putI (ty := .int) C 8 0 tyX8 tyX8_ok nmX8 (by decide) rfl (by decide) rfl (fun _ h => List.mem_cons_of_mem _ (List.mem_append_right _ h)) (by decide) rfl (by decide +kernel) rfl (by decide +kernel) rfl rfl dX8_trace_2 ?_
  refine m_hide hM rfl (fun S hM => ?_)
  refine s_iload_n C 1 dX8_trace_5 rfl ?_
  refine s_i2l C dX8_trace_6 ?_
  refine s_lconst (v := lN 0) C dX8_trace_7 rfl ?_
  refine s_aload_n C 0 dX8_trace_8 rfl ?_
  refine s_getI C 8 21 (by decide) rfl (by decide) rfl (fun _ h => List.mem_cons_of_mem _ (List.mem_append_right _ h)) (by decide) rfl (by decide +kernel) dX8_trace_9 ?_
  refine s_toe (b := T 0 21) (hM.2 _ _ rfl) ?_
  refine s_toe (b := nI (ih_td T)) hI.2.2.2.2.1 ?_
  refine s_iconst (v := nI 1) C dX8_trace_12 (by decide) ?_
  refine s_isub C dX8_trace_13  ?_
  refine s_i2l C dX8_trace_14 ?_
  refine s_callSi 3 C (c_X8_in _ w _ _ _ _ _) gX8_trace_X8_in rfl (by decide +kernel) (by decide) (by decide) rfl rfl (Nat.le_of_ble_eq_true rfl) dX8_trace_15 ?_
  rintro rb15 S2 ⟨hrb15, rfl⟩
  rw [ih_wide, ih_wide, ih_tl (by decide), ih_m1 (by omega)] at hrb15
  refine s_if_eq C 30 dX8_trace_18 (by decide) (fun h18 => ?_) (fun h18 => ?_)
  · replace h18 := ih_b0 hrb15 h18
    refine s_ldc (v := (-1000000)) C (by decide +kernel) dX8_trace_30 ?_
    exact s_ireturn C hA dX8_trace_32 (by rw [sp_trace, if_neg (by omega)]; exact ⟨rfl, hM⟩)
  · replace h18 := ih_b1 hrb15 h18
    obtain ⟨ik, hik, rfl, hikt⟩ := ih_nat (a := i) h18.1
    have hikb : ik < 16 := by omega
    refine s_aload_n C 0 dX8_trace_21 rfl ?_
    refine s_getR C 8 20 (hM.1 _ _ _ rfl) (by decide) rfl (by decide) rfl (fun _ h => List.mem_cons_of_mem _ (List.mem_append_right _ h)) (by decide) rfl (by decide +kernel) dX8_trace_22 ?_
    refine s_iload_n C 1 dX8_trace_25 rfl ?_
    refine s_iaload C 16 (ik) rfl rfl (by omega) (by decide) (by decide) rfl dX8_trace_26 ?_
    refine s_toe (b := T 13 ik) (hM.2 _ _ rfl) ?_
    refine s_goto C 32 dX8_trace_27 (by decide) ?_
    exact s_ireturn C hA dX8_trace_32 (by rw [sp_trace, if_pos (by omega), ih_n_nI hik]; exact ⟨rfl, hM⟩)

set_option maxHeartbeats 4000000 in
set_option maxRecDepth 100000 in
theorem c_X8_isOf (l : Launch) (w : ih_Wd) (S : ih_Sg) (a b : Nat) (ha : a < 4) (hb : b < 4) : ih_Ci l yX8_isOf wsX8_isOf 0 w ih_shM [.int (nI a), .int (nI b)] S (fun r S' => r = (if ih_isOf a b = true then nI 1 else nI 0) ∧ S' = S) := by
  refine ih_bodyi (ret := some .boolean) rfl rfl (Nat.le_of_ble_eq_true rfl) ?_
  intro x A hA C
  have C : ih_Ok x w A cX8_isOf 2 RX8 wsX8_isOf (ih_rm 0) (some .boolean) := C
  show ih_Mw x w ih_shM A (ih_Qi x w ih_shM A _) 2 0 0 0 [(0, .int (nI a)), (1, .int (nI b))] [] S
  refine s_iload_n C 1 dX8_isOf_0 rfl ?_
  refine s_if_eqN 19 C dX8_isOf_1 (by decide) (by omega) (fun h1 => ?_) (fun h1 => ?_)
  · refine s_iconst (v := nI 1) C dX8_isOf_19 (by decide) ?_
    refine s_goto C 24 dX8_isOf_20 (by decide) ?_
    exact s_zreturn C hA dX8_isOf_24 (by decide) ⟨by first | rw [if_pos (by simp only [ih_isOf, Bool.or_eq_true, Bool.and_eq_true, decide_eq_true_eq]; omega)] | rw [if_neg (by simp only [ih_isOf, Bool.or_eq_true, Bool.and_eq_true, decide_eq_true_eq]; omega)], rfl⟩
  · refine s_iload_n C 0 dX8_isOf_4 rfl ?_
    refine s_iload_n C 1 dX8_isOf_5 rfl ?_
    refine s_icmp_eqN 19 C dX8_isOf_6 (by decide) (by omega) (by omega) (fun h6 => ?_) (fun h6 => ?_)
    · refine s_iconst (v := nI 1) C dX8_isOf_19 (by decide) ?_
      refine s_goto C 24 dX8_isOf_20 (by decide) ?_
      exact s_zreturn C hA dX8_isOf_24 (by decide) ⟨by first | rw [if_pos (by simp only [ih_isOf, Bool.or_eq_true, Bool.and_eq_true, decide_eq_true_eq]; omega)] | rw [if_neg (by simp only [ih_isOf, Bool.or_eq_true, Bool.and_eq_true, decide_eq_true_eq]; omega)], rfl⟩
    · refine s_iload_n C 1 dX8_isOf_9 rfl ?_
      refine s_iconst (v := nI 1) C dX8_isOf_10 (by decide) ?_
      refine s_icmp_neN 23 C dX8_isOf_11 (by decide) (by omega) (by omega) (fun h11 => ?_) (fun h11 => ?_)
      · refine s_iconst (v := nI 0) C dX8_isOf_23 (by decide) ?_
        exact s_zreturn C hA dX8_isOf_24 (by decide) ⟨by first | rw [if_pos (by simp only [ih_isOf, Bool.or_eq_true, Bool.and_eq_true, decide_eq_true_eq]; omega)] | rw [if_neg (by simp only [ih_isOf, Bool.or_eq_true, Bool.and_eq_true, decide_eq_true_eq]; omega)], rfl⟩
      · refine s_iload_n C 0 dX8_isOf_14 rfl ?_
        refine s_iconst (v := nI 2) C dX8_isOf_15 (by decide) ?_
        refine s_icmp_neN 23 C dX8_isOf_16 (by decide) (by omega) (by omega) (fun h16 => ?_) (fun h16 => ?_)
        · refine s_iconst (v := nI 0) C dX8_isOf_23 (by decide) ?_
          exact s_zreturn C hA dX8_isOf_24 (by decide) ⟨by first | rw [if_pos (by simp only [ih_isOf, Bool.or_eq_true, Bool.and_eq_true, decide_eq_true_eq]; omega)] | rw [if_neg (by simp only [ih_isOf, Bool.or_eq_true, Bool.and_eq_true, decide_eq_true_eq]; omega)], rfl⟩
        · refine s_iconst (v := nI 1) C dX8_isOf_19 (by decide) ?_
          refine s_goto C 24 dX8_isOf_20 (by decide) ?_
          exact s_zreturn C hA dX8_isOf_24 (by decide) ⟨by first | rw [if_pos (by simp only [ih_isOf, Bool.or_eq_true, Bool.and_eq_true, decide_eq_true_eq]; omega)] | rw [if_neg (by simp only [ih_isOf, Bool.or_eq_true, Bool.and_eq_true, decide_eq_true_eq]; omega)], rfl⟩

set_option maxHeartbeats 4000000 in
set_option maxRecDepth 100000 in
theorem c_X8_kindOf (l : Launch) (w : ih_Wd) (S : ih_Sg) (T : ih_TT) (hM : ih_RM S T) (hI : ih_Inv T) (k : Nat) (hk : k < ih_ct T) : ih_Ci l yX8_kindOf wsX8_kindOf 0 w ih_shM [.ref (w.2.2 0), .int (nI k)] S (fun r S' => r = nI (ih_kind T k) ∧ S' = S) := by
  refine ih_bodyi (ret := some .int) rfl rfl (Nat.le_of_ble_eq_true rfl) ?_
  intro x A hA C
  have C : ih_Ok x w A cX8_kindOf 3 RX8 wsX8_kindOf (ih_rm 0) (some .int) := C
  show ih_Mw x w ih_shM A (ih_Qi x w ih_shM A _) 3 0 0 0 [(0, .ref (w.2.2 0)), (1, .int (nI k))] [] S
  have hct : ih_ct T ≤ 12 := hI.2.1.2.1
  have hC := hI.2.1.2.2
  have hc0 := ((hC k hk).1 0 (by decide)).2
  have hc4 := ((hC k hk).1 4 (by decide)).2
  have hc5 := ((hC k hk).1 5 (by decide)).2
  have hc6 := ((hC k hk).1 6 (by decide)).2
  refine s_bipush (v := nI 7) C dX8_kindOf_0 (by decide) ?_
  refine s_iload_n C 1 dX8_kindOf_2 rfl ?_
  refine s_imulN C dX8_kindOf_3 ?_
  refine s_istore_n (lv' := [(2, .int (nI (7 * k))), (0, .ref (w.2.2 0)), (1, .int (nI k))]) C dX8_kindOf_4 rfl (by decide) rfl ?_
  refine s_aload_n C 1 dX8_kindOf_5 rfl ?_
  refine s_getR C 8 6 (hM.1 _ _ _ rfl) (by decide) rfl (by decide) rfl (fun _ h => List.mem_cons_of_mem _ (List.mem_append_right _ h)) (by decide) rfl (by decide +kernel) dX8_kindOf_6 ?_
  refine s_iload_n C 0 dX8_kindOf_9 rfl ?_
  refine s_iaload C 84 (7 * k) rfl rfl (by omega) (by decide) (by decide) rfl dX8_kindOf_10 ?_
  refine s_toe (b := T 4 (7 * k)) (hM.2 _ _ rfl) ?_
  refine s_toe (b := nI (ih_ch T k 0)) ((hC k hk).1 0 (by decide)).1 ?_
  refine s_sipush (v := nI 650) C dX8_kindOf_11 (by decide) ?_
  refine s_icmp_gtN 47 C dX8_kindOf_14 (by decide) (by omega) (by omega) (fun h14 => ?_) (fun h14 => ?_)
  · refine s_aload_n C 1 dX8_kindOf_47 rfl ?_
    refine s_getR C 8 6 (hM.1 _ _ _ rfl) (by decide) rfl (by decide) rfl (fun _ h => List.mem_cons_of_mem _ (List.mem_append_right _ h)) (by decide) rfl (by decide +kernel) dX8_kindOf_48 ?_
    refine s_iload_n C 0 dX8_kindOf_51 rfl ?_
    refine s_bipush (v := nI 6) C dX8_kindOf_52 (by decide) ?_
    refine s_iaddN C dX8_kindOf_54 ?_
    refine s_iaload C 84 ((7 * k) + 6) rfl rfl (by omega) (by decide) (by decide) rfl dX8_kindOf_55 ?_
    refine s_toe (b := T 4 ((7 * k) + 6)) (hM.2 _ _ rfl) ?_
    refine s_toe (b := nI (ih_ch T k 6)) ((hC k hk).1 6 (by decide)).1 ?_
    refine s_sipush (v := nI 700) C dX8_kindOf_56 (by decide) ?_
    refine s_icmp_ltN 66 C dX8_kindOf_59 (by decide) (by omega) (by omega) (fun h59 => ?_) (fun h59 => ?_)
    · refine s_iconst (v := nI 0) C dX8_kindOf_66 (by decide) ?_
      exact s_ireturn C hA dX8_kindOf_67 ⟨by rw [ih_kind, if_neg (by omega), if_neg (by omega)], rfl⟩
    · refine s_iconst (v := nI 3) C dX8_kindOf_62 (by decide) ?_
      refine s_goto C 67 dX8_kindOf_63 (by decide) ?_
      exact s_ireturn C hA dX8_kindOf_67 ⟨by rw [ih_kind, if_neg (by omega), if_pos (by omega)], rfl⟩
  · refine s_aload_n C 1 dX8_kindOf_17 rfl ?_
    refine s_getR C 8 6 (hM.1 _ _ _ rfl) (by decide) rfl (by decide) rfl (fun _ h => List.mem_cons_of_mem _ (List.mem_append_right _ h)) (by decide) rfl (by decide +kernel) dX8_kindOf_18 ?_
    refine s_iload_n C 0 dX8_kindOf_21 rfl ?_
    refine s_iconst (v := nI 4) C dX8_kindOf_22 (by decide) ?_
    refine s_iaddN C dX8_kindOf_23 ?_
    refine s_iaload C 84 ((7 * k) + 4) rfl rfl (by omega) (by decide) (by decide) rfl dX8_kindOf_24 ?_
    refine s_toe (b := T 4 ((7 * k) + 4)) (hM.2 _ _ rfl) ?_
    refine s_toe (b := nI (ih_ch T k 4)) ((hC k hk).1 4 (by decide)).1 ?_
    refine s_aload_n C 1 dX8_kindOf_25 rfl ?_
    refine s_getR C 8 6 (hM.1 _ _ _ rfl) (by decide) rfl (by decide) rfl (fun _ h => List.mem_cons_of_mem _ (List.mem_append_right _ h)) (by decide) rfl (by decide +kernel) dX8_kindOf_26 ?_
    refine s_iload_n C 0 dX8_kindOf_29 rfl ?_
    refine s_iconst (v := nI 5) C dX8_kindOf_30 (by decide) ?_
    refine s_iaddN C dX8_kindOf_31 ?_
    refine s_iaload C 84 ((7 * k) + 5) rfl rfl (by omega) (by decide) (by decide) rfl dX8_kindOf_32 ?_
    refine s_toe (b := T 4 ((7 * k) + 5)) (hM.2 _ _ rfl) ?_
    refine s_toe (b := nI (ih_ch T k 5)) ((hC k hk).1 5 (by decide)).1 ?_
    refine s_iaddN C dX8_kindOf_33 ?_
    refine s_bipush (v := nI 60) C dX8_kindOf_34 (by decide) ?_
    refine s_icmp_ltN 43 C dX8_kindOf_36 (by decide) (by omega) (by omega) (fun h36 => ?_) (fun h36 => ?_)
    · refine s_iconst (v := nI 1) C dX8_kindOf_43 (by decide) ?_
      refine s_goto C 67 dX8_kindOf_44 (by decide) ?_
      exact s_ireturn C hA dX8_kindOf_67 ⟨by rw [ih_kind, if_pos (by omega), if_neg (by omega)], rfl⟩
    · refine s_iconst (v := nI 2) C dX8_kindOf_39 (by decide) ?_
      refine s_goto C 67 dX8_kindOf_40 (by decide) ?_
      exact s_ireturn C hA dX8_kindOf_67 ⟨by rw [ih_kind, if_pos (by omega), if_pos (by omega)], rfl⟩

theorem ih_kind_lt (T : ih_TT) (k : Nat) : ih_kind T k < 4 := by
  unfold ih_kind
  split
  · split <;> decide
  · split <;> decide
set_option maxHeartbeats 4000000 in
set_option maxRecDepth 100000 in
theorem c_X8_kind (l : Launch) (w : ih_Wd) (S : ih_Sg) (T : ih_TT) (hM : ih_RM S T) (hI : ih_Inv T) (k : Int32) : ih_Ci l yX8_kind wsX8_kind 2 w ih_shM [.ref (w.2.2 0), .int k] S (fun r S' => r = sp_kind T k ∧ ih_RM S' T) := by
  refine ih_bodyi (ret := some .int) rfl rfl (Nat.le_of_ble_eq_true rfl) ?_
  intro x A hA C
  have C : ih_Ok x w A cX8_kind 2 RX8 wsX8_kind (ih_rm 2) (some .int) := C
  show ih_Mw x w ih_shM A (ih_Qi x w ih_shM A _) 2 0 0 0 [(0, .ref (w.2.2 0)), (1, .int k)] [] S
  refine s_aload_n C 0 dX8_kind_0 rfl ?_
  refine s_iconst (v := nI 0) C dX8_kind_1 (by decide) ?_
  refine s_putI (ty := .int) C 8 0 tyX8 tyX8_ok nmX8 (by decide) rfl (by decide) rfl (fun _ h => List.mem_cons_of_mem _ (List.mem_append_right _ h)) (by decide) rfl (by decide +kernel) rfl (by decide +kernel) rfl rfl dX8_kind_2 ?_
  refine m_hide hM rfl (fun S hM => ?_)
  refine s_aload_n C 0 dX8_kind_5 rfl ?_
  refine s_iload_n C 1 dX8_kind_6 rfl ?_
  refine s_callVi 1 C (c_X8_isStriker _ w _ hM hI _) gX8_kind_X8_isStriker rfl (by decide +kernel) (by decide) (by decide) (by decide) rfl (by decide) rfl rfl rfl (Nat.le_of_ble_eq_true rfl) dX8_kind_7 ?_
  rintro rk7 S2 ⟨hrk7, rfl⟩
  refine s_if_eq C 21 dX8_kind_10 (by decide) (fun h10 => ?_) (fun h10 => ?_)
  · replace h10 := ih_b0 hrk7 h10
    refine s_ldc (v := (-1000001)) C (by decide +kernel) dX8_kind_21 ?_
    exact s_ireturn C hA dX8_kind_23 (by rw [sp_kind, if_neg (by omega)]; exact ⟨rfl, hM⟩)
  · replace h10 := ih_b1 hrk7 h10
    obtain ⟨kn, hkn, rfl, hknt⟩ := ih_nat (a := k) h10.1
    refine s_aload_n C 0 dX8_kind_13 rfl ?_
    refine s_iload_n C 1 dX8_kind_14 rfl ?_
    refine s_callVi 1 C (c_X8_kindOf _ w _ _ hM hI kn (by omega)) gX8_kind_X8_kindOf rfl (by decide +kernel) (by decide) (by decide) (by decide) rfl (by decide) rfl rfl rfl (Nat.le_of_ble_eq_true rfl) dX8_kind_15 ?_
    rintro rq S2 ⟨hrq, rfl⟩
    subst hrq
    refine s_goto C 23 dX8_kind_18 (by decide) ?_
    exact s_ireturn C hA dX8_kind_23 (by rw [sp_kind, if_pos (by omega), ih_n_nI hkn]; exact ⟨rfl, hM⟩)


