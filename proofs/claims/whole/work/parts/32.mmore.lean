set_option maxHeartbeats 4000000 in
set_option maxRecDepth 100000 in
theorem c_X8_striker (l : Launch) (w : ih_Wd) (S : ih_Sg) (T : ih_TT) (hM : ih_RM S T) (hI : ih_Inv T) (a b c d e f : Int32) : ih_Ci l yX8_striker wsX8_striker 2 w ih_shM [.ref (w.2.2 0), .int a, .int b, .int c, .int d, .int e, .int f] S (fun r S' => r = (sp_striker T a b c d e f).1 ∧ ih_RM S' (sp_striker T a b c d e f).2) := by
  refine ih_bodyi (ret := some .int) rfl rfl (Nat.le_of_ble_eq_true rfl) ?_
  intro x A hA C
  have C : ih_Ok x w A cX8_striker 8 RX8 wsX8_striker (ih_rm 2) (some .int) := C
  show ih_Mw x w ih_shM A (ih_Qi x w ih_shM A _) 8 0 0 0 [(0, .ref (w.2.2 0)), (1, .int a), (2, .int b), (3, .int c), (4, .int d), (5, .int e), (6, .int f)] [] S
  have hct : ih_ct T ≤ 12 := hI.2.1.2.1
  have hC := hI.2.1.2.2
  refine s_aload_n C 0 dX8_striker_0 rfl ?_
  refine s_iconst (v := nI 0) C dX8_striker_1 (by decide) ?_
  refine s_putI (ty := .int) C 8 0 tyX8 tyX8_ok nmX8 (by decide) rfl (by decide) rfl (fun _ h => List.mem_cons_of_mem _ (List.mem_append_right _ h)) (by decide) rfl (by decide +kernel) rfl (by decide +kernel) rfl rfl dX8_striker_2 ?_
  refine m_hide hM rfl (fun S hM => ?_)
  refine s_iload_n C 1 dX8_striker_5 rfl ?_
  refine s_callSi 1 C (c_X8_isChance _ w _ _) gX8_striker_X8_isChance rfl (by decide +kernel) (by decide) (by decide) rfl rfl (Nat.le_of_ble_eq_true rfl) dX8_striker_6 ?_
  rintro rc6 S2 ⟨hrc6, rfl⟩
  refine s_if_eq C 67 dX8_striker_9 (by decide) (fun h9 => ?_) (fun h9 => ?_)
  · replace h9 := ih_b0 hrc6 h9
    refine s_ldc (v := (-1000001)) C (by decide +kernel) dX8_striker_67 ?_
    exact s_ireturn C hA dX8_striker_69 (by rw [sp_striker, if_neg (by omega)]; exact ⟨rfl, hM⟩)
  · replace h9 := ih_b1 hrc6 h9
    refine s_iload_n C 2 dX8_striker_12 rfl ?_
    refine s_callSi 1 C (c_X8_isChance _ w _ _) gX8_striker_X8_isChance rfl (by decide +kernel) (by decide) (by decide) rfl rfl (Nat.le_of_ble_eq_true rfl) dX8_striker_13 ?_
    rintro rc13 S2 ⟨hrc13, rfl⟩
    refine s_if_eq C 67 dX8_striker_16 (by decide) (fun h16 => ?_) (fun h16 => ?_)
    · replace h16 := ih_b0 hrc13 h16
      refine s_ldc (v := (-1000001)) C (by decide +kernel) dX8_striker_67 ?_
      exact s_ireturn C hA dX8_striker_69 (by rw [sp_striker, if_neg (by omega)]; exact ⟨rfl, hM⟩)
    · replace h16 := ih_b1 hrc13 h16
      refine s_iload_n C 3 dX8_striker_19 rfl ?_
      refine s_callSi 1 C (c_X8_isChance _ w _ _) gX8_striker_X8_isChance rfl (by decide +kernel) (by decide) (by decide) rfl rfl (Nat.le_of_ble_eq_true rfl) dX8_striker_20 ?_
      rintro rc20 S2 ⟨hrc20, rfl⟩
      refine s_if_eq C 67 dX8_striker_23 (by decide) (fun h23 => ?_) (fun h23 => ?_)
      · replace h23 := ih_b0 hrc20 h23
        refine s_ldc (v := (-1000001)) C (by decide +kernel) dX8_striker_67 ?_
        exact s_ireturn C hA dX8_striker_69 (by rw [sp_striker, if_neg (by omega)]; exact ⟨rfl, hM⟩)
      · replace h23 := ih_b1 hrc20 h23
        refine s_iload C 4 dX8_striker_26 rfl ?_
        refine s_callSi 1 C (c_X8_isChance _ w _ _) gX8_striker_X8_isChance rfl (by decide +kernel) (by decide) (by decide) rfl rfl (Nat.le_of_ble_eq_true rfl) dX8_striker_28 ?_
        rintro rc28 S2 ⟨hrc28, rfl⟩
        refine s_if_eq C 67 dX8_striker_31 (by decide) (fun h31 => ?_) (fun h31 => ?_)
        · replace h31 := ih_b0 hrc28 h31
          refine s_ldc (v := (-1000001)) C (by decide +kernel) dX8_striker_67 ?_
          exact s_ireturn C hA dX8_striker_69 (by rw [sp_striker, if_neg (by omega)]; exact ⟨rfl, hM⟩)
        · replace h31 := ih_b1 hrc28 h31
          refine s_iload C 5 dX8_striker_34 rfl ?_
          refine s_callSi 1 C (c_X8_isChance _ w _ _) gX8_striker_X8_isChance rfl (by decide +kernel) (by decide) (by decide) rfl rfl (Nat.le_of_ble_eq_true rfl) dX8_striker_36 ?_
          rintro rc36 S2 ⟨hrc36, rfl⟩
          refine s_if_eq C 67 dX8_striker_39 (by decide) (fun h39 => ?_) (fun h39 => ?_)
          · replace h39 := ih_b0 hrc36 h39
            refine s_ldc (v := (-1000001)) C (by decide +kernel) dX8_striker_67 ?_
            exact s_ireturn C hA dX8_striker_69 (by rw [sp_striker, if_neg (by omega)]; exact ⟨rfl, hM⟩)
          · replace h39 := ih_b1 hrc36 h39
            refine s_iload C 6 dX8_striker_42 rfl ?_
            refine s_callSi 1 C (c_X8_isChance _ w _ _) gX8_striker_X8_isChance rfl (by decide +kernel) (by decide) (by decide) rfl rfl (Nat.le_of_ble_eq_true rfl) dX8_striker_44 ?_
            rintro rc44 S2 ⟨hrc44, rfl⟩
            refine s_if_eq C 67 dX8_striker_47 (by decide) (fun h47 => ?_) (fun h47 => ?_)
            · replace h47 := ih_b0 hrc44 h47
              refine s_ldc (v := (-1000001)) C (by decide +kernel) dX8_striker_67 ?_
              exact s_ireturn C hA dX8_striker_69 (by rw [sp_striker, if_neg (by omega)]; exact ⟨rfl, hM⟩)
            · replace h47 := ih_b1 hrc44 h47
              obtain ⟨an, han, rfl, hant⟩ := ih_nat (a := a) h9.1
              obtain ⟨bn, hbn, rfl, hbnt⟩ := ih_nat (a := b) h16.1
              obtain ⟨cn, hcn, rfl, hcnt⟩ := ih_nat (a := c) h23.1
              obtain ⟨dn, hdn, rfl, hdnt⟩ := ih_nat (a := d) h31.1
              obtain ⟨en, hen, rfl, hent⟩ := ih_nat (a := e) h39.1
              obtain ⟨fn, hfn, rfl, hfnt⟩ := ih_nat (a := f) h47.1
              refine s_iload_n C 1 dX8_striker_50 rfl ?_
              refine s_iload_n C 2 dX8_striker_51 rfl ?_
              refine s_iaddN C dX8_striker_52 ?_
              refine s_iload_n C 3 dX8_striker_53 rfl ?_
              refine s_iaddN C dX8_striker_54 ?_
              refine s_iload C 4 dX8_striker_55 rfl ?_
              refine s_iaddN C dX8_striker_57 ?_
              refine s_iload C 5 dX8_striker_58 rfl ?_
              refine s_iaddN C dX8_striker_60 ?_
              refine s_sipush (v := nI 1000) C dX8_striker_61 (by decide) ?_
              refine s_icmp_leN 70 C dX8_striker_64 (by decide) (by omega) (by omega) (fun h64 => ?_) (fun h64 => ?_)
              · refine s_aload_n C 0 dX8_striker_70 rfl ?_
                refine s_getI C 8 5 (by decide) rfl (by decide) rfl (fun _ h => List.mem_cons_of_mem _ (List.mem_append_right _ h)) (by decide) rfl (by decide +kernel) dX8_striker_71 ?_
                refine s_toe (b := T 0 5) (hM.2 _ _ rfl) ?_
                refine s_toe (b := nI (ih_ct T)) hI.2.1.1 ?_
                refine s_bipush (v := nI 12) C dX8_striker_74 (by decide) ?_
                refine s_icmp_neN 82 C dX8_striker_76 (by decide) (by omega) (by omega) (fun h76 => ?_) (fun h76 => ?_)
                · refine s_bipush (v := nI 7) C dX8_striker_82 (by decide) ?_
                  refine s_aload_n C 0 dX8_striker_84 rfl ?_
                  refine s_getI C 8 5 (by decide) rfl (by decide) rfl (fun _ h => List.mem_cons_of_mem _ (List.mem_append_right _ h)) (by decide) rfl (by decide +kernel) dX8_striker_85 ?_
                  refine s_toe (b := T 0 5) (hM.2 _ _ rfl) ?_
                  refine s_toe (b := nI (ih_ct T)) hI.2.1.1 ?_
                  refine s_imulN C dX8_striker_88 ?_
                  refine s_istore (lv' := [(7, .int (nI (7 * (ih_ct T)))), (0, .ref (w.2.2 0)), (1, .int (nI an)), (2, .int (nI bn)), (3, .int (nI cn)), (4, .int (nI dn)), (5, .int (nI en)), (6, .int (nI fn))]) C dX8_striker_89 (by decide) rfl ?_
                  refine s_aload_n C 1 dX8_striker_91 rfl ?_
                  refine s_getR C 8 6 (hM.1 _ _ _ rfl) (by decide) rfl (by decide) rfl (fun _ h => List.mem_cons_of_mem _ (List.mem_append_right _ h)) (by decide) rfl (by decide +kernel) dX8_striker_92 ?_
                  refine s_iload C 0 dX8_striker_95 rfl ?_
                  refine s_iconst (v := nI 1) C dX8_striker_97 (by decide) ?_
                  refine s_iaddN C dX8_striker_98 ?_
                  refine s_iload_n C 2 dX8_striker_99 rfl ?_
                  refine s_iastore C 84 ((7 * (ih_ct T)) + 1) rfl rfl (by omega) (by decide) (by decide) rfl dX8_striker_100 ?_
                  refine m_w hM (fun S hM => ?_)
                  refine s_aload_n C 1 dX8_striker_101 rfl ?_
                  refine s_getR C 8 6 (hM.1 _ _ _ rfl) (by decide) rfl (by decide) rfl (fun _ h => List.mem_cons_of_mem _ (List.mem_append_right _ h)) (by decide) rfl (by decide +kernel) dX8_striker_102 ?_
                  refine s_iload C 0 dX8_striker_105 rfl ?_
                  refine s_iconst (v := nI 2) C dX8_striker_107 (by decide) ?_
                  refine s_iaddN C dX8_striker_108 ?_
                  refine s_iload_n C 3 dX8_striker_109 rfl ?_
                  refine s_iastore C 84 ((7 * (ih_ct T)) + 2) rfl rfl (by omega) (by decide) (by decide) rfl dX8_striker_110 ?_
                  refine m_w hM (fun S hM => ?_)
                  refine s_aload_n C 1 dX8_striker_111 rfl ?_
                  refine s_getR C 8 6 (hM.1 _ _ _ rfl) (by decide) rfl (by decide) rfl (fun _ h => List.mem_cons_of_mem _ (List.mem_append_right _ h)) (by decide) rfl (by decide +kernel) dX8_striker_112 ?_
                  refine s_iload C 0 dX8_striker_115 rfl ?_
                  refine s_iconst (v := nI 3) C dX8_striker_117 (by decide) ?_
                  refine s_iaddN C dX8_striker_118 ?_
                  refine s_iload_n C 4 dX8_striker_119 rfl ?_
                  refine s_iastore C 84 ((7 * (ih_ct T)) + 3) rfl rfl (by omega) (by decide) (by decide) rfl dX8_striker_120 ?_
                  refine m_w hM (fun S hM => ?_)
                  refine s_aload_n C 1 dX8_striker_121 rfl ?_
                  refine s_getR C 8 6 (hM.1 _ _ _ rfl) (by decide) rfl (by decide) rfl (fun _ h => List.mem_cons_of_mem _ (List.mem_append_right _ h)) (by decide) rfl (by decide +kernel) dX8_striker_122 ?_
                  refine s_iload C 0 dX8_striker_125 rfl ?_
                  refine s_iconst (v := nI 4) C dX8_striker_127 (by decide) ?_
                  refine s_iaddN C dX8_striker_128 ?_
                  refine s_iload C 5 dX8_striker_129 rfl ?_
                  refine s_iastore C 84 ((7 * (ih_ct T)) + 4) rfl rfl (by omega) (by decide) (by decide) rfl dX8_striker_131 ?_
                  refine m_w hM (fun S hM => ?_)
                  refine s_aload_n C 1 dX8_striker_132 rfl ?_
                  refine s_getR C 8 6 (hM.1 _ _ _ rfl) (by decide) rfl (by decide) rfl (fun _ h => List.mem_cons_of_mem _ (List.mem_append_right _ h)) (by decide) rfl (by decide +kernel) dX8_striker_133 ?_
                  refine s_iload C 0 dX8_striker_136 rfl ?_
                  refine s_iconst (v := nI 5) C dX8_striker_138 (by decide) ?_
                  refine s_iaddN C dX8_striker_139 ?_
                  refine s_iload C 6 dX8_striker_140 rfl ?_
                  refine s_iastore C 84 ((7 * (ih_ct T)) + 5) rfl rfl (by omega) (by decide) (by decide) rfl dX8_striker_142 ?_
                  refine m_w hM (fun S hM => ?_)
                  refine s_aload_n C 1 dX8_striker_143 rfl ?_
                  refine s_getR C 8 6 (hM.1 _ _ _ rfl) (by decide) rfl (by decide) rfl (fun _ h => List.mem_cons_of_mem _ (List.mem_append_right _ h)) (by decide) rfl (by decide +kernel) dX8_striker_144 ?_
                  refine s_iload C 0 dX8_striker_147 rfl ?_
                  refine s_bipush (v := nI 6) C dX8_striker_149 (by decide) ?_
                  refine s_iaddN C dX8_striker_151 ?_
                  refine s_iload C 7 dX8_striker_152 rfl ?_
                  refine s_iastore C 84 ((7 * (ih_ct T)) + 6) rfl rfl (by omega) (by decide) (by decide) rfl dX8_striker_154 ?_
                  refine m_w hM (fun S hM => ?_)
                  refine s_aload_n C 1 dX8_striker_155 rfl ?_
                  refine s_aload_n C 1 dX8_striker_156 rfl ?_
                  refine s_getI C 8 5 (by decide) rfl (by decide) rfl (fun _ h => List.mem_cons_of_mem _ (List.mem_append_right _ h)) (by decide) rfl (by decide +kernel) dX8_striker_157 ?_
                  refine s_toe (b := T 0 5) (hM.2 _ _ rfl) ?_
                  refine s_toe (b := nI (ih_ct T)) hI.2.1.1 ?_
                  refine s_callVv 1 C (c_X8_settle _ w _ _ hM _ (by omega)) gX8_striker_X8_settle rfl (by decide +kernel) (by decide) (by decide) (by decide) rfl (by decide) rfl rfl rfl (Nat.le_of_ble_eq_true rfl) dX8_striker_160 ?_
                  rintro S hM
                  refine s_aload_n C 1 dX8_striker_163 rfl ?_
                  refine s_dup C dX8_striker_164 rfl ?_
                  refine s_getI C 8 5 (by decide) rfl (by decide) rfl (fun _ h => List.mem_cons_of_mem _ (List.mem_append_right _ h)) (by decide) rfl (by decide +kernel) dX8_striker_165 ?_
                  refine s_toe (b := T 0 5) (hM.2 _ _ rfl) ?_
                  refine s_toe (b := nI (ih_ct T)) hI.2.1.1 ?_
                  refine s_iconst (v := nI 1) C dX8_striker_168 (by decide) ?_
                  refine s_iaddN C dX8_striker_169 ?_
                  refine s_putI (ty := .int) C 8 5 tyX8 tyX8_ok nmX8 (by decide) rfl (by decide) rfl (fun _ h => List.mem_cons_of_mem _ (List.mem_append_right _ h)) (by decide) rfl (by decide +kernel) rfl (by decide +kernel) rfl rfl dX8_striker_170 ?_
                  refine m_w hM (fun S hM => ?_)
                  refine s_aload_n C 1 dX8_striker_173 rfl ?_
                  refine s_getI C 8 5 (by decide) rfl (by decide) rfl (fun _ h => List.mem_cons_of_mem _ (List.mem_append_right _ h)) (by decide) rfl (by decide +kernel) dX8_striker_174 ?_
                  refine s_toe (b := nI (ih_ct T + 1)) ((hM.2 _ _ rfl).trans ih_u2_s) ?_
                  refine s_iconst (v := nI 1) C dX8_striker_177 (by decide) ?_
                  refine s_isubN C dX8_striker_178 (by omega) ?_
                  exact s_ireturn C hA dX8_striker_179 (by rw [sp_striker, if_pos (by omega), if_neg (by omega)]; exact ⟨rfl, hM⟩)
                · refine s_ldc (v := (-1000003)) C (by decide +kernel) dX8_striker_79 ?_
                  exact s_ireturn C hA dX8_striker_81 (by rw [sp_striker, if_pos (by omega), if_pos (by omega)]; exact ⟨rfl, hM⟩)
              · refine s_ldc (v := (-1000001)) C (by decide +kernel) dX8_striker_67 ?_
                exact s_ireturn C hA dX8_striker_69 (by rw [sp_striker, if_neg (by omega)]; exact ⟨rfl, hM⟩)

set_option maxHeartbeats 4000000 in
set_option maxRecDepth 100000 in
theorem c_X8_train (l : Launch) (w : ih_Wd) (S : ih_Sg) (T : ih_TT) (hM : ih_RM S T) (hI : ih_Inv T) (k a v : Int32) : ih_Ci l yX8_train wsX8_train 2 w ih_shM [.ref (w.2.2 0), .int k, .int a, .int v] S (fun r S' => r = (sp_train T k a v).1 ∧ ih_RM S' (sp_train T k a v).2) := by
  refine ih_bodyi (ret := some .int) rfl rfl (Nat.le_of_ble_eq_true rfl) ?_
  intro x A hA C
  have C : ih_Ok x w A cX8_train 5 RX8 wsX8_train (ih_rm 2) (some .int) := C
  show ih_Mw x w ih_shM A (ih_Qi x w ih_shM A _) 5 0 0 0 [(0, .ref (w.2.2 0)), (1, .int k), (2, .int a), (3, .int v)] [] S
  have hct : ih_ct T ≤ 12 := hI.2.1.2.1
  have hC := hI.2.1.2.2
  refine s_aload_n C 0 dX8_train_0 rfl ?_
  refine s_iconst (v := nI 0) C dX8_train_1 (by decide) ?_
  refine s_putI (ty := .int) C 8 0 tyX8 tyX8_ok nmX8 (by decide) rfl (by decide) rfl (fun _ h => List.mem_cons_of_mem _ (List.mem_append_right _ h)) (by decide) rfl (by decide +kernel) rfl (by decide +kernel) rfl rfl dX8_train_2 ?_
  refine m_hide hM rfl (fun S hM => ?_)
  refine s_aload_n C 0 dX8_train_5 rfl ?_
  refine s_iload_n C 1 dX8_train_6 rfl ?_
  refine s_callVi 1 C (c_X8_isStriker _ w _ hM hI _) gX8_train_X8_isStriker rfl (by decide +kernel) (by decide) (by decide) (by decide) rfl (by decide) rfl rfl rfl (Nat.le_of_ble_eq_true rfl) dX8_train_7 ?_
  rintro rk7 S2 ⟨hrk7, rfl⟩
  refine s_if_eq C 32 dX8_train_10 (by decide) (fun h10 => ?_) (fun h10 => ?_)
  · replace h10 := ih_b0 hrk7 h10
    refine s_ldc (v := (-1000001)) C (by decide +kernel) dX8_train_32 ?_
    exact s_ireturn C hA dX8_train_34 (by rw [sp_train, if_neg (by omega)]; exact ⟨rfl, hM⟩)
  · replace h10 := ih_b1 hrk7 h10
    refine s_iload_n C 2 dX8_train_13 rfl ?_
    refine s_i2l C dX8_train_14 ?_
    refine s_lconst (v := lN 1) C dX8_train_15 rfl ?_
    refine s_ldc2 (v := lN 6) C (by decide +kernel) dX8_train_16 ?_
    refine s_callSi 3 C (c_X8_in _ w _ _ _ _ _) gX8_train_X8_in rfl (by decide +kernel) (by decide) (by decide) rfl rfl (Nat.le_of_ble_eq_true rfl) dX8_train_19 ?_
    rintro rb19 S2 ⟨hrb19, rfl⟩
    rw [ih_wide, ih_tl (by decide), ih_tl (by decide)] at hrb19
    refine s_if_eq C 32 dX8_train_22 (by decide) (fun h22 => ?_) (fun h22 => ?_)
    · replace h22 := ih_b0 hrb19 h22
      refine s_ldc (v := (-1000001)) C (by decide +kernel) dX8_train_32 ?_
      exact s_ireturn C hA dX8_train_34 (by rw [sp_train, if_neg (by omega)]; exact ⟨rfl, hM⟩)
    · replace h22 := ih_b1 hrb19 h22
      refine s_iload_n C 3 dX8_train_25 rfl ?_
      refine s_callSi 1 C (c_X8_isChance _ w _ _) gX8_train_X8_isChance rfl (by decide +kernel) (by decide) (by decide) rfl rfl (Nat.le_of_ble_eq_true rfl) dX8_train_26 ?_
      rintro rc26 S2 ⟨hrc26, rfl⟩
      refine s_if_ne C 35 dX8_train_29 (by decide) (fun h29 => ?_) (fun h29 => ?_)
      · replace h29 := ih_b1 hrc26 h29
        obtain ⟨kn, hkn, rfl, hknt⟩ := ih_nat (a := k) h10.1
        obtain ⟨an, han, rfl, hant⟩ := ih_nat (a := a) (by omega)
        have hanb : an < 7 := by omega
        obtain ⟨vn, hvn, rfl, hvnt⟩ := ih_nat (a := v) h29.1
        have hca := ((hC kn (by omega)).1 an (by omega)).2
        have hc0 := ((hC kn (by omega)).1 0 (by omega)).2
        refine s_aload_n C 0 dX8_train_35 rfl ?_
        refine s_getR C 8 6 (hM.1 _ _ _ rfl) (by decide) rfl (by decide) rfl (fun _ h => List.mem_cons_of_mem _ (List.mem_append_right _ h)) (by decide) rfl (by decide +kernel) dX8_train_36 ?_
        refine s_bipush (v := nI 7) C dX8_train_39 (by decide) ?_
        refine s_iload_n C 1 dX8_train_41 rfl ?_
        refine s_imulN C dX8_train_42 ?_
        refine s_iload_n C 2 dX8_train_43 rfl ?_
        refine s_iaddN C dX8_train_44 ?_
        refine s_iaload C 84 ((7 * kn) + an) rfl rfl (by omega) (by decide) (by decide) rfl dX8_train_45 ?_
        refine s_toe (b := T 4 ((7 * kn) + an)) (hM.2 _ _ rfl) ?_
        refine s_toe (b := nI (ih_ch T kn an)) ((hC kn (by omega)).1 an (by omega)).1 ?_
        refine s_istore (lv' := [(4, .int (nI (ih_ch T kn an))), (0, .ref (w.2.2 0)), (1, .int (nI kn)), (2, .int (nI an)), (3, .int (nI vn))]) C dX8_train_46 (by decide) rfl ?_
        refine s_iload_n C 3 dX8_train_48 rfl ?_
        refine s_bipush (v := nI 6) C dX8_train_49 (by decide) ?_
        refine s_icmp_geN 73 C dX8_train_51 (by decide) (by omega) (by omega) (fun h51 => ?_) (fun h51 => ?_)
        · refine s_aload_n C 1 dX8_train_73 rfl ?_
          refine s_getR C 8 6 (hM.1 _ _ _ rfl) (by decide) rfl (by decide) rfl (fun _ h => List.mem_cons_of_mem _ (List.mem_append_right _ h)) (by decide) rfl (by decide +kernel) dX8_train_74 ?_
          refine s_bipush (v := nI 7) C dX8_train_77 (by decide) ?_
          refine s_iload_n C 2 dX8_train_79 rfl ?_
          refine s_imulN C dX8_train_80 ?_
          refine s_iload_n C 3 dX8_train_81 rfl ?_
          refine s_iaddN C dX8_train_82 ?_
          refine s_iload_n C 4 dX8_train_83 rfl ?_
          refine s_iastore C 84 ((7 * kn) + an) rfl rfl (by omega) (by decide) (by decide) rfl dX8_train_84 ?_
          refine m_w hM (fun S hM => ?_)
          refine s_aload_n C 1 dX8_train_85 rfl ?_
          refine s_iload_n C 2 dX8_train_86 rfl ?_
          refine s_callVv 1 C (c_X8_settle _ w _ _ hM _ (by omega)) gX8_train_X8_settle rfl (by decide +kernel) (by decide) (by decide) (by decide) rfl (by decide) rfl rfl rfl (Nat.le_of_ble_eq_true rfl) dX8_train_87 ?_
          rintro S hM
          refine s_iload C 0 dX8_train_90 rfl ?_
          exact s_ireturn C hA dX8_train_92 (by rw [sp_train, ih_n_nI hkn, ih_n_nI han, ih_n_nI hvn, if_pos (by omega), if_neg (by omega)]; exact ⟨((hC kn (by omega)).1 an (by omega)).1.symm, hM⟩)
        · refine s_aload_n C 1 dX8_train_54 rfl ?_
          refine s_getR C 8 6 (hM.1 _ _ _ rfl) (by decide) rfl (by decide) rfl (fun _ h => List.mem_cons_of_mem _ (List.mem_append_right _ h)) (by decide) rfl (by decide +kernel) dX8_train_55 ?_
          refine s_bipush (v := nI 7) C dX8_train_58 (by decide) ?_
          refine s_iload_n C 2 dX8_train_60 rfl ?_
          refine s_imulN C dX8_train_61 ?_
          refine s_iaload C 84 (7 * kn) rfl rfl (by omega) (by decide) (by decide) rfl dX8_train_62 ?_
          refine s_toe (b := T 4 (7 * kn)) (hM.2 _ _ rfl) ?_
          refine s_toe (b := nI (ih_ch T kn 0)) ((hC kn (by omega)).1 0 (by omega)).1 ?_
          refine s_iload C 0 dX8_train_63 rfl ?_
          refine s_iaddN C dX8_train_65 ?_
          refine s_iload_n C 4 dX8_train_66 rfl ?_
          refine s_icmp_geN 73 C dX8_train_67 (by decide) (by omega) (by omega) (fun h67 => ?_) (fun h67 => ?_)
          · refine s_aload_n C 1 dX8_train_73 rfl ?_
            refine s_getR C 8 6 (hM.1 _ _ _ rfl) (by decide) rfl (by decide) rfl (fun _ h => List.mem_cons_of_mem _ (List.mem_append_right _ h)) (by decide) rfl (by decide +kernel) dX8_train_74 ?_
            refine s_bipush (v := nI 7) C dX8_train_77 (by decide) ?_
            refine s_iload_n C 2 dX8_train_79 rfl ?_
            refine s_imulN C dX8_train_80 ?_
            refine s_iload_n C 3 dX8_train_81 rfl ?_
            refine s_iaddN C dX8_train_82 ?_
            refine s_iload_n C 4 dX8_train_83 rfl ?_
            refine s_iastore C 84 ((7 * kn) + an) rfl rfl (by omega) (by decide) (by decide) rfl dX8_train_84 ?_
            refine m_w hM (fun S hM => ?_)
            refine s_aload_n C 1 dX8_train_85 rfl ?_
            refine s_iload_n C 2 dX8_train_86 rfl ?_
            refine s_callVv 1 C (c_X8_settle _ w _ _ hM _ (by omega)) gX8_train_X8_settle rfl (by decide +kernel) (by decide) (by decide) (by decide) rfl (by decide) rfl rfl rfl (Nat.le_of_ble_eq_true rfl) dX8_train_87 ?_
            rintro S hM
            refine s_iload C 0 dX8_train_90 rfl ?_
            exact s_ireturn C hA dX8_train_92 (by rw [sp_train, ih_n_nI hkn, ih_n_nI han, ih_n_nI hvn, if_pos (by omega), if_neg (by omega)]; exact ⟨((hC kn (by omega)).1 an (by omega)).1.symm, hM⟩)
          · refine s_ldc (v := (-1000002)) C (by decide +kernel) dX8_train_70 ?_
            exact s_ireturn C hA dX8_train_72 (by rw [sp_train, ih_n_nI hkn, ih_n_nI han, ih_n_nI hvn, if_pos (by omega), if_pos (by omega)]; exact ⟨rfl, hM⟩)
      · replace h29 := ih_b0 hrc26 h29
        refine s_ldc (v := (-1000001)) C (by decide +kernel) dX8_train_32 ?_
        exact s_ireturn C hA dX8_train_34 (by rw [sp_train, if_neg (by omega)]; exact ⟨rfl, hM⟩)

theorem ih_cp5_3 {T : ih_TT} {b j : Nat} : ∀ n, ih_cp5 T b n 3 j = T 3 j
  | 0 => rfl
  | n + 1 => ih_cp5_3 n
set_option maxHeartbeats 4000000 in
set_option maxRecDepth 100000 in
theorem c_X8_order (l : Launch) (w : ih_Wd) (S : ih_Sg) (T : ih_TT) (hM : ih_RM S T) (hI : ih_Inv T) (s i n : Int32) : ih_Ci l yX8_order wsX8_order 2 w ih_shM [.ref (w.2.2 0), .int s, .int i, .int n] S (fun r S' => r = (sp_order T s i n).1 ∧ ih_RM S' (sp_order T s i n).2) := by
  refine ih_bodyi (ret := some .int) rfl rfl (Nat.le_of_ble_eq_true rfl) ?_
  intro x A hA C
  have C : ih_Ok x w A cX8_order 5 RX8 wsX8_order (ih_rm 2) (some .int) := C
  show ih_Mw x w ih_shM A (ih_Qi x w ih_shM A _) 5 0 0 0 [(0, .ref (w.2.2 0)), (1, .int s), (2, .int i), (3, .int n)] [] S
  obtain ⟨Q, hQ⟩ : ∃ Q, Q = ih_Qi x w ih_shM A (fun r S' => r = (sp_order T s i n).1 ∧ ih_RM S' (sp_order T s i n).2) := ⟨_, rfl⟩
  rw [show ih_Qi x w ih_shM A _ = Q from hQ.symm]
  have hct : ih_ct T ≤ 12 := hI.2.1.2.1
  have hC := hI.2.1.2.2
  refine s_aload_n C 0 dX8_order_0 rfl ?_
  refine s_iconst (v := nI 0) C dX8_order_1 (by decide) ?_
  refine s_putI (ty := .int) C 8 0 tyX8 tyX8_ok nmX8 (by decide) rfl (by decide) rfl (fun _ h => List.mem_cons_of_mem _ (List.mem_append_right _ h)) (by decide) rfl (by decide +kernel) rfl (by decide +kernel) rfl rfl dX8_order_2 ?_
  refine m_hide hM rfl (fun S hM => ?_)
  refine s_iload_n C 1 dX8_order_5 rfl ?_
  refine s_callSi 1 C (c_X8_isSheet _ w _ _) gX8_order_X8_isSheet rfl (by decide +kernel) (by decide) (by decide) rfl rfl (Nat.le_of_ble_eq_true rfl) dX8_order_6 ?_
  rintro rs6 S2 ⟨hrs6, rfl⟩
  refine s_if_eq C 24 dX8_order_9 (by decide) (fun h9 => ?_) (fun h9 => ?_)
  · replace h9 := ih_b0 hrs6 h9
    refine s_ldc (v := (-1000001)) C (by decide +kernel) dX8_order_24 ?_
    rw [hQ]
    exact s_ireturn C hA dX8_order_26 (by rw [sp_order, if_neg (by omega)]; exact ⟨rfl, hM⟩)
  · replace h9 := ih_b1 hrs6 h9
    refine s_iload_n C 3 dX8_order_12 rfl ?_
    refine s_i2l C dX8_order_13 ?_
    refine s_lconst (v := lN 1) C dX8_order_14 rfl ?_
    refine s_ldc2 (v := lN 9) C (by decide +kernel) dX8_order_15 ?_
    refine s_callSi 3 C (c_X8_in _ w _ _ _ _ _) gX8_order_X8_in rfl (by decide +kernel) (by decide) (by decide) rfl rfl (Nat.le_of_ble_eq_true rfl) dX8_order_18 ?_
    rintro rb18 S2 ⟨hrb18, rfl⟩
    rw [ih_wide, ih_tl (by decide), ih_tl (by decide)] at hrb18
    refine s_if_ne C 27 dX8_order_21 (by decide) (fun h21 => ?_) (fun h21 => ?_)
    · replace h21 := ih_b1 hrb18 h21
      obtain ⟨sn, hsn, rfl, hsnt⟩ := ih_nat (a := s) h9.1
      have hsnb : sn < 8 := by omega
      obtain ⟨nn, hnn, rfl, hnnt⟩ := ih_nat (a := n) (by omega)
      have hnnb : nn < 10 := by omega
      have hmn : ih_mn T sn ≤ 60 := (hI.1 sn (by omega)).2.2
      refine s_aload_n C 0 dX8_order_27 rfl ?_
      refine s_getR C 8 2 (hM.1 _ _ _ rfl) (by decide) rfl (by decide) rfl (fun _ h => List.mem_cons_of_mem _ (List.mem_append_right _ h)) (by decide) rfl (by decide +kernel) dX8_order_28 ?_
      refine s_iload_n C 1 dX8_order_31 rfl ?_
      refine s_iaload C 8 (sn) rfl rfl (by omega) (by decide) (by decide) rfl dX8_order_32 ?_
      refine s_toe (b := T 1 sn) (hM.2 _ _ rfl) ?_
      refine s_if_ge C 42 dX8_order_33 (by decide) (fun h33 => ?_) (fun h33 => ?_)
      · simp only [ih_lei, ih_lti, ih_t0] at h33
        refine s_iload_n C 2 dX8_order_42 rfl ?_
        refine s_if_lt C 62 dX8_order_43 (by decide) (fun h43 => ?_) (fun h43 => ?_)
        · simp only [ih_lei, ih_lti, ih_t0] at h43
          refine s_aload_n C 0 dX8_order_62 rfl ?_
          refine s_iconst (v := nI 2) C dX8_order_63 (by decide) ?_
          refine s_callVi 1 C (c_X8_found _ w _ _) gX8_order_X8_found rfl (by decide +kernel) (by decide) (by decide) (by decide) rfl (by decide) rfl rfl rfl (Nat.le_of_ble_eq_true rfl) dX8_order_64 ?_
          rintro rf S2 ⟨hrf, rfl⟩
          refine m_w hM (fun S hM => ?_)
          rw [hQ]
          exact s_ireturn C hA dX8_order_67 (by rw [sp_order, ih_n_nI hsn, if_pos (by omega), if_neg (by omega), if_neg (by omega)]; exact ⟨hrf, hM⟩)
        · simp only [ih_lei, ih_lti, ih_t0] at h43
          obtain ⟨ii, hii, rfl, hiit⟩ := ih_nat (a := i) (by omega)
          refine s_iload_n C 2 dX8_order_46 rfl ?_
          refine s_i2lN C dX8_order_47 (by omega) ?_
          refine s_iload_n C 3 dX8_order_48 rfl ?_
          refine s_i2lN C dX8_order_49 (by omega) ?_
          refine s_laddN C dX8_order_50 ?_
          refine s_aload_n C 0 dX8_order_51 rfl ?_
          refine s_getR C 8 3 (hM.1 _ _ _ rfl) (by decide) rfl (by decide) rfl (fun _ h => List.mem_cons_of_mem _ (List.mem_append_right _ h)) (by decide) rfl (by decide +kernel) dX8_order_52 ?_
          refine s_iload_n C 1 dX8_order_55 rfl ?_
          refine s_iaload C 8 (sn) rfl rfl (by omega) (by decide) (by decide) rfl dX8_order_56 ?_
          refine s_toe (b := T 2 sn) (hM.2 _ _ rfl) ?_
          refine s_toe (b := nI (ih_mn T sn)) (hI.1 sn (by omega)).2.1 ?_
          refine s_i2lN C dX8_order_57 (by omega) ?_
          refine s_lcmp C dX8_order_58 ?_
          refine s_if_le C 68 dX8_order_59 (by decide) (fun h59 => ?_) (fun h59 => ?_)
          · simp only [ih_t0, lg_cmp_lt, lg_cmp_gt, lg_cmp_le, lg_cmp_ge, ih_lel, ih_ltl, ih_tl (n := ii + nn) (by omega), ih_tl (n := ih_mn T sn) (by omega)] at h59
            refine s_iconst (v := nI 0) C dX8_order_68 (by decide) ?_
            refine s_istore (lv' := [(4, .int (nI 0)), (0, .ref (w.2.2 0)), (1, .int (nI sn)), (2, .int (nI ii)), (3, .int (nI nn))]) C dX8_order_69 (by decide) rfl ?_
            have hx_71 : ∀ S, ih_RM S T ∧ (∀ j, j < nn → 0 ≤ (T 3 (60 * sn + ii + j)).toInt ∧ (T 3 (60 * sn + ii + j)).toInt < ih_ct T) → ih_Mw x w ih_shM A Q 5 0 0 107 [(0, .ref (w.2.2 0)), (1, .int (nI sn)), (2, .int (nI ii)), (3, .int (nI nn)), (4, .int (nI nn))] [] S := by
              intro S ⟨hM, hj⟩
              refine s_aload_n C 0 dX8_order_107 rfl ?_
              refine s_iconst (v := nI 0) C dX8_order_108 (by decide) ?_
              refine s_putI (ty := .int) C 8 1 tyX8 tyX8_ok nmX8 (by decide) rfl (by decide) rfl (fun _ h => List.mem_cons_of_mem _ (List.mem_append_right _ h)) (by decide) rfl (by decide +kernel) rfl (by decide +kernel) rfl rfl dX8_order_109 ?_
              refine m_w hM (fun S hM => ?_)
              refine s_aload_n C 0 dX8_order_112 rfl ?_
              refine s_iload_n C 3 dX8_order_113 rfl ?_
              refine s_putI (ty := .int) C 8 7 tyX8 tyX8_ok nmX8 (by decide) rfl (by decide) rfl (fun _ h => List.mem_cons_of_mem _ (List.mem_append_right _ h)) (by decide) rfl (by decide +kernel) rfl (by decide +kernel) rfl rfl dX8_order_114 ?_
              refine m_w hM (fun S hM => ?_)
              refine s_iconst (v := nI 0) C dX8_order_117 (by decide) ?_
              refine s_istore (lv' := [(4, .int (nI 0)), (0, .ref (w.2.2 0)), (1, .int (nI sn)), (2, .int (nI ii)), (3, .int (nI nn))]) C dX8_order_118 (by decide) rfl ?_
              have hx_120 : ∀ S, ih_RM S (ih_cp5 (ih_u2 (ih_u2 T 0 1 (nI 0)) 0 7 (nI nn)) (60 * sn + ii) (nn)) → ih_Mw x w ih_shM A Q 5 0 0 153 [(0, .ref (w.2.2 0)), (1, .int (nI sn)), (2, .int (nI ii)), (3, .int (nI nn)), (4, .int (nI nn))] [] S := by
                intro S hM
                refine s_iload_n C 3 dX8_order_153 rfl ?_
                rw [hQ]
                exact s_ireturn C hA dX8_order_154 (by rw [sp_order, if_pos (by omega), ih_n_nI hsn, ih_n_nI hii, ih_n_nI hnn, if_neg (by omega), if_pos (by omega), if_pos hj]; exact ⟨rfl, hM⟩)
              have loop_120 : ∀ (fu k : Nat), k + fu = nn → ∀ S, ih_RM S (ih_cp5 (ih_u2 (ih_u2 T 0 1 (nI 0)) 0 7 (nI nn)) (60 * sn + ii) (k)) → ih_Mw x w ih_shM A Q 5 0 0 120 [(0, .ref (w.2.2 0)), (1, .int (nI sn)), (2, .int (nI ii)), (3, .int (nI nn)), (4, .int (nI k))] [] S := by
                intro fu
                induction fu with
                | zero =>
                  intro k hke S hM
                  have hk0 : k = nn := by omega
                  refine s_iload C 4 dX8_order_120 rfl ?_
                  refine s_iload_n C 3 dX8_order_122 rfl ?_
                  refine s_icmp_geN 153 C dX8_order_123 (by decide) (by omega) (by omega) (fun h123 => ?_) (fun h123 => ?_)
                  · subst hk0
                    exact hx_120 _ hM
                  · exfalso; omega
                | succ fu ih_120 =>
                  intro k hke S hM
                  have hkl : k < nn := by omega
                  refine s_iload C 4 dX8_order_120 rfl ?_
                  refine s_iload_n C 3 dX8_order_122 rfl ?_
                  refine s_icmp_geN 153 C dX8_order_123 (by decide) (by omega) (by omega) (fun h123 => ?_) (fun h123 => ?_)
                  · exfalso; omega
                  · refine s_aload_n C 0 dX8_order_126 rfl ?_
                    refine s_getR C 8 8 (hM.1 _ _ _ rfl) (by decide) rfl (by decide) rfl (fun _ h => List.mem_cons_of_mem _ (List.mem_append_right _ h)) (by decide) rfl (by decide +kernel) dX8_order_127 ?_
                    refine s_iload C 4 dX8_order_130 rfl ?_
                    refine s_aload_n C 0 dX8_order_132 rfl ?_
                    refine s_getR C 8 4 (hM.1 _ _ _ rfl) (by decide) rfl (by decide) rfl (fun _ h => List.mem_cons_of_mem _ (List.mem_append_right _ h)) (by decide) rfl (by decide +kernel) dX8_order_133 ?_
                    refine s_bipush (v := nI 60) C dX8_order_136 (by decide) ?_
                    refine s_iload_n C 1 dX8_order_138 rfl ?_
                    refine s_imulN C dX8_order_139 ?_
                    refine s_iload_n C 2 dX8_order_140 rfl ?_
                    refine s_iaddN C dX8_order_141 ?_
                    refine s_iload C 4 dX8_order_142 rfl ?_
                    refine s_iaddN C dX8_order_144 ?_
                    refine s_iaload C 480 (((60 * sn) + ii) + k) rfl rfl (by omega) (by decide) (by decide) rfl dX8_order_145 ?_
                    refine s_toe (b := T 3 (((60 * sn) + ii) + k)) ((hM.2 _ _ rfl).trans (ih_cp5_3 _)) ?_
                    refine s_iastore C 9 (k) rfl rfl (by omega) (by decide) (by decide) rfl dX8_order_146 ?_
                    refine m_w hM (fun S hM => ?_)
                    refine s_iinc (u := nI (k + 1)) (lv' := [(4, .int (nI (k + 1))), (0, .ref (w.2.2 0)), (1, .int (nI sn)), (2, .int (nI ii)), (3, .int (nI nn))]) C 4 dX8_order_147 rfl (ih_incN (by decide)) (by decide) rfl ?_
                    refine s_goto C 120 dX8_order_150 (by decide) ?_
                    refine s_perm [1, 2, 3, 4, 0] rfl ?_
                    exact ih_120 (k + 1) (by omega) _ hM
              refine s_perm [1, 2, 3, 4, 0] rfl ?_
              exact loop_120 (nn) 0 (by omega) _ hM
            have loop_71 : ∀ (fu k : Nat), k + fu = nn → ∀ S, ih_RM S T ∧ (∀ j, j < k → 0 ≤ (T 3 (60 * sn + ii + j)).toInt ∧ (T 3 (60 * sn + ii + j)).toInt < ih_ct T) → ih_Mw x w ih_shM A Q 5 0 0 71 [(0, .ref (w.2.2 0)), (1, .int (nI sn)), (2, .int (nI ii)), (3, .int (nI nn)), (4, .int (nI k))] [] S := by
              intro fu
              induction fu with
              | zero =>
                intro k hke S ⟨hM, hj⟩
                have hk0 : k = nn := by omega
                refine s_iload C 4 dX8_order_71 rfl ?_
                refine s_iload_n C 3 dX8_order_73 rfl ?_
                refine s_icmp_geN 107 C dX8_order_74 (by decide) (by omega) (by omega) (fun h74 => ?_) (fun h74 => ?_)
                · subst hk0
                  exact hx_71 _ ⟨hM, hj⟩
                · exfalso; omega
              | succ fu ih_71 =>
                intro k hke S ⟨hM, hj⟩
                have hkl : k < nn := by omega
                refine s_iload C 4 dX8_order_71 rfl ?_
                refine s_iload_n C 3 dX8_order_73 rfl ?_
                refine s_icmp_geN 107 C dX8_order_74 (by decide) (by omega) (by omega) (fun h74 => ?_) (fun h74 => ?_)
                · exfalso; omega
                · refine s_aload_n C 0 dX8_order_77 rfl ?_
                  refine s_aload_n C 0 dX8_order_78 rfl ?_
                  refine s_getR C 8 4 (hM.1 _ _ _ rfl) (by decide) rfl (by decide) rfl (fun _ h => List.mem_cons_of_mem _ (List.mem_append_right _ h)) (by decide) rfl (by decide +kernel) dX8_order_79 ?_
                  refine s_bipush (v := nI 60) C dX8_order_82 (by decide) ?_
                  refine s_iload_n C 1 dX8_order_84 rfl ?_
                  refine s_imulN C dX8_order_85 ?_
                  refine s_iload_n C 2 dX8_order_86 rfl ?_
                  refine s_iaddN C dX8_order_87 ?_
                  refine s_iload C 4 dX8_order_88 rfl ?_
                  refine s_iaddN C dX8_order_90 ?_
                  refine s_iaload C 480 (((60 * sn) + ii) + k) rfl rfl (by omega) (by decide) (by decide) rfl dX8_order_91 ?_
                  refine s_toe (b := T 3 (((60 * sn) + ii) + k)) (hM.2 _ _ rfl) ?_
                  refine s_callVi 1 C (c_X8_isStriker _ w _ hM hI _) gX8_order_X8_isStriker rfl (by decide +kernel) (by decide) (by decide) (by decide) rfl (by decide) rfl rfl rfl (Nat.le_of_ble_eq_true rfl) dX8_order_92 ?_
                  rintro rk92 S2 ⟨hrk92, rfl⟩
                  refine s_if_ne C 101 dX8_order_95 (by decide) (fun h95 => ?_) (fun h95 => ?_)
                  · replace h95 := ih_b1 hrk92 h95
                    refine s_iinc (u := nI (k + 1)) (lv' := [(4, .int (nI (k + 1))), (0, .ref (w.2.2 0)), (1, .int (nI sn)), (2, .int (nI ii)), (3, .int (nI nn))]) C 4 dX8_order_101 rfl (ih_incN (by decide)) (by decide) rfl ?_
                    refine s_goto C 71 dX8_order_104 (by decide) ?_
                    refine s_perm [1, 2, 3, 4, 0] rfl ?_
                    refine ih_71 (k + 1) (by omega) _ ⟨hM, fun j hj2 => ?_⟩
                    rcases Nat.lt_succ_iff_lt_or_eq.mp hj2 with q | q
                    · exact hj j q
                    · subst q; exact h95
                  · replace h95 := ih_b0 hrk92 h95
                    refine s_ldc (v := (-1000001)) C (by decide +kernel) dX8_order_98 ?_
                    rw [hQ]
                    exact s_ireturn C hA dX8_order_100 (by rw [sp_order, if_pos (by omega), ih_n_nI hsn, ih_n_nI hii, ih_n_nI hnn, if_neg (by omega), if_pos (by omega), if_neg (fun q => h95 (q k hkl))]; exact ⟨rfl, hM⟩)
            refine s_perm [1, 2, 3, 4, 0] rfl ?_
            exact loop_71 nn 0 (by omega) _ ⟨hM, fun j hj2 => absurd hj2 (Nat.not_lt_zero j)⟩
          · simp only [ih_t0, lg_cmp_lt, lg_cmp_gt, lg_cmp_le, lg_cmp_ge, ih_lel, ih_ltl, ih_tl (n := ii + nn) (by omega), ih_tl (n := ih_mn T sn) (by omega)] at h59
            refine s_aload_n C 0 dX8_order_62 rfl ?_
            refine s_iconst (v := nI 2) C dX8_order_63 (by decide) ?_
            refine s_callVi 1 C (c_X8_found _ w _ _) gX8_order_X8_found rfl (by decide +kernel) (by decide) (by decide) (by decide) rfl (by decide) rfl rfl rfl (Nat.le_of_ble_eq_true rfl) dX8_order_64 ?_
            rintro rf S2 ⟨hrf, rfl⟩
            refine m_w hM (fun S hM => ?_)
            rw [hQ]
            exact s_ireturn C hA dX8_order_67 (by rw [sp_order, ih_n_nI hsn, if_pos (by omega), if_neg (by omega), if_neg (by omega)]; exact ⟨hrf, hM⟩)
      · simp only [ih_lei, ih_lti, ih_t0] at h33
        refine s_aload_n C 0 dX8_order_36 rfl ?_
        refine s_iconst (v := nI 1) C dX8_order_37 (by decide) ?_
        refine s_callVi 1 C (c_X8_found _ w _ _) gX8_order_X8_found rfl (by decide +kernel) (by decide) (by decide) (by decide) rfl (by decide) rfl rfl rfl (Nat.le_of_ble_eq_true rfl) dX8_order_38 ?_
        rintro rf S2 ⟨hrf, rfl⟩
        refine m_w hM (fun S hM => ?_)
        rw [hQ]
        exact s_ireturn C hA dX8_order_41 (by rw [sp_order, ih_n_nI hsn, if_pos (by omega), if_pos (by omega)]; exact ⟨hrf, hM⟩)
    · replace h21 := ih_b0 hrb18 h21
      refine s_ldc (v := (-1000001)) C (by decide +kernel) dX8_order_24 ?_
      rw [hQ]
      exact s_ireturn C hA dX8_order_26 (by rw [sp_order, if_neg (by omega)]; exact ⟨rfl, hM⟩)

set_option maxHeartbeats 4000000 in
set_option maxRecDepth 100000 in
theorem c_X8_began (l : Launch) (w : ih_Wd) (S : ih_Sg) (T : ih_TT) (hM : ih_RM S T) (hA2 : ih_InvA T) (b : Nat) : ih_Cv l yX8_began wsX8_began 0 w ih_shM [.ref (w.2.2 0), .int (nI b)] S (fun S' => ih_RM S' (ih_bg T b)) := by
  refine ih_bodyv (ret := none) rfl rfl (Nat.le_of_ble_eq_true rfl) ?_
  intro x A hA C
  have C : ih_Ok x w A cX8_began 2 RX8 wsX8_began (ih_rm 0) (none) := C
  show ih_Mw x w ih_shM A (ih_Qv x w ih_shM A _) 2 0 0 0 [(0, .ref (w.2.2 0)), (1, .int (nI b))] [] S
  have htd : ih_td T ≤ 16 := hA2.2
  refine s_aload_n C 0 dX8_began_0 rfl ?_
  refine s_getI C 8 21 (by decide) rfl (by decide) rfl (fun _ h => List.mem_cons_of_mem _ (List.mem_append_right _ h)) (by decide) rfl (by decide +kernel) dX8_began_1 ?_
  refine s_toe (b := T 0 21) (hM.2 _ _ rfl) ?_
  refine s_toe (b := nI (ih_td T)) hA2.1 ?_
  refine s_bipush (v := nI 16) C dX8_began_4 (by decide) ?_
  refine s_icmp_geN 29 C dX8_began_6 (by decide) (by omega) (by omega) (fun h6 => ?_) (fun h6 => ?_)
  · exact s_vreturn C hA dX8_began_29 (by unfold ih_bg; first | rw [if_pos (by omega)]; exact hM | rw [if_neg (by omega)]; exact hM)
  · refine s_aload_n C 0 dX8_began_9 rfl ?_
    refine s_getR C 8 20 (hM.1 _ _ _ rfl) (by decide) rfl (by decide) rfl (fun _ h => List.mem_cons_of_mem _ (List.mem_append_right _ h)) (by decide) rfl (by decide +kernel) dX8_began_10 ?_
    refine s_aload_n C 0 dX8_began_13 rfl ?_
    refine s_getI C 8 21 (by decide) rfl (by decide) rfl (fun _ h => List.mem_cons_of_mem _ (List.mem_append_right _ h)) (by decide) rfl (by decide +kernel) dX8_began_14 ?_
    refine s_toe (b := T 0 21) (hM.2 _ _ rfl) ?_
    refine s_toe (b := nI (ih_td T)) hA2.1 ?_
    refine s_iload_n C 1 dX8_began_17 rfl ?_
    refine s_iastore C 16 (ih_td T) rfl rfl (by omega) (by decide) (by decide) rfl dX8_began_18 ?_
    refine m_w hM (fun S hM => ?_)
    refine s_aload_n C 0 dX8_began_19 rfl ?_
    refine s_dup C dX8_began_20 rfl ?_
    refine s_getI C 8 21 (by decide) rfl (by decide) rfl (fun _ h => List.mem_cons_of_mem _ (List.mem_append_right _ h)) (by decide) rfl (by decide +kernel) dX8_began_21 ?_
    refine s_toe (b := T 0 21) (hM.2 _ _ rfl) ?_
    refine s_toe (b := nI (ih_td T)) hA2.1 ?_
    refine s_iconst (v := nI 1) C dX8_began_24 (by decide) ?_
    refine s_iaddN C dX8_began_25 ?_
    refine s_putI (ty := .int) C 8 21 tyX8 tyX8_ok nmX8 (by decide) rfl (by decide) rfl (fun _ h => List.mem_cons_of_mem _ (List.mem_append_right _ h)) (by decide) rfl (by decide +kernel) rfl (by decide +kernel) rfl rfl dX8_began_26 ?_
    refine m_w hM (fun S hM => ?_)
    exact s_vreturn C hA dX8_began_29 (by unfold ih_bg; first | rw [if_pos (by omega)]; exact hM | rw [if_neg (by omega)]; exact hM)

theorem ih_bg_4 {T : ih_TT} {b : Nat} (j : Nat) : ih_bg T b 4 j = T 4 j := by
  unfold ih_bg
  split
  · rfl
  · rfl
theorem ih_bg_c {T : ih_TT} {b k : Nat} {c : Nat → Nat} (h : ∀ a, a < 7 → T 4 (7 * k + a) = nI (c a) ∧ c a ≤ 1000) : ∀ a, a < 7 → ih_bg T b 4 (7 * k + a) = nI (c a) ∧ c a ≤ 1000 := fun a ha => by rw [ih_bg_4]; exact h a ha
theorem ih_bg_A {T : ih_TT} {b : Nat} (h : ih_InvA T) : ih_InvA (ih_bg T b) := by
  unfold ih_bg
  split
  · next h2 =>
    have e : ih_td (ih_u2 (ih_u2 T 13 (ih_td T) (nI b)) 0 21 (nI (ih_td T + 1))) = ih_td T + 1 := by
      show ih_n (ih_u2 (ih_u2 T 13 (ih_td T) (nI b)) 0 21 (nI (ih_td T + 1)) 0 21) = _
      rw [ih_u2_s, ih_n_nI (by omega)]
    refine ⟨?_, by rw [e]; omega⟩
    rw [e, ih_u2_s]
  · exact h
theorem ih_Inv_st {T : ih_TT} {v : Int32} (h : ih_Inv T) : ih_Inv (ih_u2 T 0 1 v) := h
theorem ih_Inv_c {T : ih_TT} (h : ih_Inv T) {k : Nat} (hk : k < ih_ct T) : ∀ a, a < 7 → T 4 (7 * k + a) = nI (ih_ch T k a) ∧ ih_ch T k a ≤ 1000 := (h.2.1.2.2 k hk).1
set_option maxHeartbeats 4000000 in
set_option maxRecDepth 100000 in
theorem c_X8_safeSize_1 (l : Launch) (w : ih_Wd) (S : ih_Sg) (T : ih_TT) (hM : ih_RM S T) (hA2 : ih_InvA T) (k : Nat) (hk : k < 12) (c : Nat → Nat) (hc : ∀ a, a < 7 → T 4 (7 * k + a) = nI (c a) ∧ c a ≤ 1000) : ih_Ci l yX8_safeSize wsX8_safeSize 1 w ih_shM [.ref (w.2.2 0), .int (nI k), .int (nI 1)] S (fun r S' => r = nI (ih_vlS c 1) ∧ ih_RM S' (ih_trS T 1)) := by
  refine ih_bodyi (ret := some .int) rfl rfl (Nat.le_of_ble_eq_true rfl) ?_
  intro x A hA C
  have C : ih_Ok x w A cX8_safeSize 4 RX8 wsX8_safeSize (ih_rm 1) (some .int) := C
  show ih_Mw x w ih_shM A (ih_Qi x w ih_shM A _) 4 0 0 0 [(0, .ref (w.2.2 0)), (1, .int (nI k)), (2, .int (nI 1))] [] S
  have hc0 := (hc 0 (by decide)).2
  have hc5 := (hc 5 (by decide)).2
  have hc6 := (hc 6 (by decide)).2
  refine s_iload_n C 2 dX8_safeSize_0 rfl ?_
  refine s_iconst (v := nI 2) C dX8_safeSize_1 (by decide) ?_
  refine s_icmp_neN 11 C dX8_safeSize_2 (by decide) (by omega) (by omega) (fun h2 => ?_) (fun h2 => ?_)
  · refine s_aload_n C 0 dX8_safeSize_11 rfl ?_
    refine s_bipush (v := nI 11) C dX8_safeSize_12 (by decide) ?_
    refine s_callVv 1 C (c_X8_began _ w _ _ hM hA2 _) gX8_safeSize_X8_began rfl (by decide +kernel) (by decide) (by decide) (by decide) rfl (by decide) rfl rfl rfl (Nat.le_of_ble_eq_true rfl) dX8_safeSize_14 ?_
    rintro S hM
    replace hc := ih_bg_c (b := 11) hc
    replace hA2 := ih_bg_A (b := 11) hA2
    refine s_aload_n C 0 dX8_safeSize_17 rfl ?_
    refine s_bipush (v := nI 10) C dX8_safeSize_18 (by decide) ?_
    refine s_callVv 1 C (c_X8_began _ w _ _ hM hA2 _) gX8_safeSize_X8_began rfl (by decide +kernel) (by decide) (by decide) (by decide) rfl (by decide) rfl rfl rfl (Nat.le_of_ble_eq_true rfl) dX8_safeSize_20 ?_
    rintro S hM
    replace hc := ih_bg_c (b := 10) hc
    replace hA2 := ih_bg_A (b := 10) hA2
    refine s_aload_n C 0 dX8_safeSize_23 rfl ?_
    refine s_getR C 8 6 (hM.1 _ _ _ rfl) (by decide) rfl (by decide) rfl (fun _ h => List.mem_cons_of_mem _ (List.mem_append_right _ h)) (by decide) rfl (by decide +kernel) dX8_safeSize_24 ?_
    refine s_bipush (v := nI 7) C dX8_safeSize_27 (by decide) ?_
    refine s_iload_n C 1 dX8_safeSize_29 rfl ?_
    refine s_imulN C dX8_safeSize_30 ?_
    refine s_bipush (v := nI 6) C dX8_safeSize_31 (by decide) ?_
    refine s_iaddN C dX8_safeSize_33 ?_
    refine s_iaload C 84 ((7 * k) + 6) rfl rfl (by omega) (by decide) (by decide) rfl dX8_safeSize_34 ?_
    refine s_toe (b := nI (c 6)) ((hM.2 _ _ rfl).trans (hc 6 (by decide)).1) ?_
    refine s_sipush (v := nI 1000) C dX8_safeSize_35 (by decide) ?_
    refine s_iaddN C dX8_safeSize_38 ?_
    refine s_aload_n C 0 dX8_safeSize_39 rfl ?_
    refine s_getR C 8 6 (hM.1 _ _ _ rfl) (by decide) rfl (by decide) rfl (fun _ h => List.mem_cons_of_mem _ (List.mem_append_right _ h)) (by decide) rfl (by decide +kernel) dX8_safeSize_40 ?_
    refine s_bipush (v := nI 7) C dX8_safeSize_43 (by decide) ?_
    refine s_iload_n C 1 dX8_safeSize_45 rfl ?_
    refine s_imulN C dX8_safeSize_46 ?_
    refine s_iaload C 84 (7 * k) rfl rfl (by omega) (by decide) (by decide) rfl dX8_safeSize_47 ?_
    refine s_toe (b := nI (c 0)) ((hM.2 _ _ rfl).trans (hc 0 (by decide)).1) ?_
    refine s_isubN C dX8_safeSize_48 (by omega) ?_
    refine s_istore_n (lv' := [(3, .int (nI (((c 6) + 1000) - (c 0)))), (0, .ref (w.2.2 0)), (1, .int (nI k)), (2, .int (nI 1))]) C dX8_safeSize_49 rfl (by decide) rfl ?_
    refine s_iload_n C 3 dX8_safeSize_50 rfl ?_
    refine s_iconst (v := nI 2) C dX8_safeSize_51 (by decide) ?_
    refine s_icmp_neN 61 C dX8_safeSize_52 (by decide) (by omega) (by omega) (fun h52 => ?_) (fun h52 => ?_)
    · refine s_iload_n C 0 dX8_safeSize_61 rfl ?_
      exact s_ireturn C hA dX8_safeSize_62 (by rw [ih_vlS_1, ih_trS_1]; exact ⟨rfl, hM⟩)
    · exact absurd h52 (by decide)
  · exact absurd h2 (by decide)

set_option maxHeartbeats 4000000 in
set_option maxRecDepth 100000 in
theorem c_X8_safeSize_2 (l : Launch) (w : ih_Wd) (S : ih_Sg) (T : ih_TT) (hM : ih_RM S T) (hA2 : ih_InvA T) (k : Nat) (hk : k < 12) (c : Nat → Nat) (hc : ∀ a, a < 7 → T 4 (7 * k + a) = nI (c a) ∧ c a ≤ 1000) : ih_Ci l yX8_safeSize wsX8_safeSize 1 w ih_shM [.ref (w.2.2 0), .int (nI k), .int (nI 2)] S (fun r S' => r = nI (ih_vlS c 2) ∧ ih_RM S' (ih_trS T 2)) := by
  refine ih_bodyi (ret := some .int) rfl rfl (Nat.le_of_ble_eq_true rfl) ?_
  intro x A hA C
  have C : ih_Ok x w A cX8_safeSize 4 RX8 wsX8_safeSize (ih_rm 1) (some .int) := C
  show ih_Mw x w ih_shM A (ih_Qi x w ih_shM A _) 4 0 0 0 [(0, .ref (w.2.2 0)), (1, .int (nI k)), (2, .int (nI 2))] [] S
  have hc0 := (hc 0 (by decide)).2
  have hc5 := (hc 5 (by decide)).2
  have hc6 := (hc 6 (by decide)).2
  refine s_iload_n C 2 dX8_safeSize_0 rfl ?_
  refine s_iconst (v := nI 2) C dX8_safeSize_1 (by decide) ?_
  refine s_icmp_neN 11 C dX8_safeSize_2 (by decide) (by omega) (by omega) (fun h2 => ?_) (fun h2 => ?_)
  · exact absurd h2 (by decide)
  · refine s_aload_n C 0 dX8_safeSize_5 rfl ?_
    refine s_bipush (v := nI 12) C dX8_safeSize_6 (by decide) ?_
    refine s_callVv 1 C (c_X8_began _ w _ _ hM hA2 _) gX8_safeSize_X8_began rfl (by decide +kernel) (by decide) (by decide) (by decide) rfl (by decide) rfl rfl rfl (Nat.le_of_ble_eq_true rfl) dX8_safeSize_8 ?_
    rintro S hM
    replace hc := ih_bg_c (b := 12) hc
    replace hA2 := ih_bg_A (b := 12) hA2
    refine s_aload_n C 0 dX8_safeSize_11 rfl ?_
    refine s_bipush (v := nI 11) C dX8_safeSize_12 (by decide) ?_
    refine s_callVv 1 C (c_X8_began _ w _ _ hM hA2 _) gX8_safeSize_X8_began rfl (by decide +kernel) (by decide) (by decide) (by decide) rfl (by decide) rfl rfl rfl (Nat.le_of_ble_eq_true rfl) dX8_safeSize_14 ?_
    rintro S hM
    replace hc := ih_bg_c (b := 11) hc
    replace hA2 := ih_bg_A (b := 11) hA2
    refine s_aload_n C 0 dX8_safeSize_17 rfl ?_
    refine s_bipush (v := nI 10) C dX8_safeSize_18 (by decide) ?_
    refine s_callVv 1 C (c_X8_began _ w _ _ hM hA2 _) gX8_safeSize_X8_began rfl (by decide +kernel) (by decide) (by decide) (by decide) rfl (by decide) rfl rfl rfl (Nat.le_of_ble_eq_true rfl) dX8_safeSize_20 ?_
    rintro S hM
    replace hc := ih_bg_c (b := 10) hc
    replace hA2 := ih_bg_A (b := 10) hA2
    refine s_aload_n C 0 dX8_safeSize_23 rfl ?_
    refine s_getR C 8 6 (hM.1 _ _ _ rfl) (by decide) rfl (by decide) rfl (fun _ h => List.mem_cons_of_mem _ (List.mem_append_right _ h)) (by decide) rfl (by decide +kernel) dX8_safeSize_24 ?_
    refine s_bipush (v := nI 7) C dX8_safeSize_27 (by decide) ?_
    refine s_iload_n C 1 dX8_safeSize_29 rfl ?_
    refine s_imulN C dX8_safeSize_30 ?_
    refine s_bipush (v := nI 6) C dX8_safeSize_31 (by decide) ?_
    refine s_iaddN C dX8_safeSize_33 ?_
    refine s_iaload C 84 ((7 * k) + 6) rfl rfl (by omega) (by decide) (by decide) rfl dX8_safeSize_34 ?_
    refine s_toe (b := nI (c 6)) ((hM.2 _ _ rfl).trans (hc 6 (by decide)).1) ?_
    refine s_sipush (v := nI 1000) C dX8_safeSize_35 (by decide) ?_
    refine s_iaddN C dX8_safeSize_38 ?_
    refine s_aload_n C 0 dX8_safeSize_39 rfl ?_
    refine s_getR C 8 6 (hM.1 _ _ _ rfl) (by decide) rfl (by decide) rfl (fun _ h => List.mem_cons_of_mem _ (List.mem_append_right _ h)) (by decide) rfl (by decide +kernel) dX8_safeSize_40 ?_
    refine s_bipush (v := nI 7) C dX8_safeSize_43 (by decide) ?_
    refine s_iload_n C 1 dX8_safeSize_45 rfl ?_
    refine s_imulN C dX8_safeSize_46 ?_
    refine s_iaload C 84 (7 * k) rfl rfl (by omega) (by decide) (by decide) rfl dX8_safeSize_47 ?_
    refine s_toe (b := nI (c 0)) ((hM.2 _ _ rfl).trans (hc 0 (by decide)).1) ?_
    refine s_isubN C dX8_safeSize_48 (by omega) ?_
    refine s_istore_n (lv' := [(3, .int (nI (((c 6) + 1000) - (c 0)))), (0, .ref (w.2.2 0)), (1, .int (nI k)), (2, .int (nI 2))]) C dX8_safeSize_49 rfl (by decide) rfl ?_
    refine s_iload_n C 3 dX8_safeSize_50 rfl ?_
    refine s_iconst (v := nI 2) C dX8_safeSize_51 (by decide) ?_
    refine s_icmp_neN 61 C dX8_safeSize_52 (by decide) (by omega) (by omega) (fun h52 => ?_) (fun h52 => ?_)
    · exact absurd h52 (by decide)
    · refine s_iconst (v := nI 2) C dX8_safeSize_55 (by decide) ?_
      refine s_iload_n C 0 dX8_safeSize_56 rfl ?_
      refine s_imulN C dX8_safeSize_57 ?_
      refine s_goto C 62 dX8_safeSize_58 (by decide) ?_
      exact s_ireturn C hA dX8_safeSize_62 (by rw [ih_vlS_2, ih_trS_2]; exact ⟨rfl, hM⟩)

set_option maxHeartbeats 4000000 in
set_option maxRecDepth 100000 in
theorem c_X8_markOf_0 (l : Launch) (w : ih_Wd) (S : ih_Sg) (T : ih_TT) (hM : ih_RM S T) (hA2 : ih_InvA T) (k : Nat) (hk : k < 12) (c : Nat → Nat) (hc : ∀ a, a < 7 → T 4 (7 * k + a) = nI (c a) ∧ c a ≤ 1000) : ih_Ci l yX8_markOf wsX8_markOf 2 w ih_shM [.ref (w.2.2 0), .int (nI k), .int (nI 0)] S (fun r S' => r = nI (ih_vlM c 0) ∧ ih_RM S' (ih_trM T 0)) := by
  refine ih_bodyi (ret := some .int) rfl rfl (Nat.le_of_ble_eq_true rfl) ?_
  intro x A hA C
  have C : ih_Ok x w A cX8_markOf 4 RX8 wsX8_markOf (ih_rm 2) (some .int) := C
  show ih_Mw x w ih_shM A (ih_Qi x w ih_shM A _) 4 0 0 0 [(0, .ref (w.2.2 0)), (1, .int (nI k)), (2, .int (nI 0))] [] S
  have hc0 := (hc 0 (by decide)).2
  have hc5 := (hc 5 (by decide)).2
  have hc6 := (hc 6 (by decide)).2
  refine s_iload_n C 2 dX8_markOf_0 rfl ?_
  refine s_iconst (v := nI 2) C dX8_markOf_1 (by decide) ?_
  refine s_icmp_neN 11 C dX8_markOf_2 (by decide) (by omega) (by omega) (fun h2 => ?_) (fun h2 => ?_)
  · refine s_iload_n C 2 dX8_markOf_11 rfl ?_
    refine s_iconst (v := nI 1) C dX8_markOf_12 (by decide) ?_
    refine s_callSi 2 C (c_X8_isOf _ w _ 0 1 (by decide) (by decide)) gX8_markOf_X8_isOf rfl (by decide +kernel) (by decide) (by decide) rfl rfl (Nat.le_of_ble_eq_true rfl) dX8_markOf_13 ?_
    rintro ro S2 ⟨hro, rfl⟩
    subst hro
    refine s_if_eqN 25 C dX8_markOf_16 (by decide) (by omega) (fun h16 => ?_) (fun h16 => ?_)
    · refine s_iload_n C 2 dX8_markOf_25 rfl ?_
      refine s_iconst (v := nI 3) C dX8_markOf_26 (by decide) ?_
      refine s_icmp_neN 36 C dX8_markOf_27 (by decide) (by omega) (by omega) (fun h27 => ?_) (fun h27 => ?_)
      · refine s_aload_n C 0 dX8_markOf_36 rfl ?_
        refine s_bipush (v := nI 20) C dX8_markOf_37 (by decide) ?_
        refine s_callVv 1 C (c_X8_began _ w _ _ hM hA2 _) gX8_markOf_X8_began rfl (by decide +kernel) (by decide) (by decide) (by decide) rfl (by decide) rfl rfl rfl (Nat.le_of_ble_eq_true rfl) dX8_markOf_39 ?_
        rintro S hM
        replace hc := ih_bg_c (b := 20) hc
        replace hA2 := ih_bg_A (b := 20) hA2
        refine s_aload_n C 0 dX8_markOf_42 rfl ?_
        refine s_getR C 8 6 (hM.1 _ _ _ rfl) (by decide) rfl (by decide) rfl (fun _ h => List.mem_cons_of_mem _ (List.mem_append_right _ h)) (by decide) rfl (by decide +kernel) dX8_markOf_43 ?_
        refine s_bipush (v := nI 7) C dX8_markOf_46 (by decide) ?_
        refine s_iload_n C 1 dX8_markOf_48 rfl ?_
        refine s_imulN C dX8_markOf_49 ?_
        refine s_iconst (v := nI 5) C dX8_markOf_50 (by decide) ?_
        refine s_iaddN C dX8_markOf_51 ?_
        refine s_iaload C 84 ((7 * k) + 5) rfl rfl (by omega) (by decide) (by decide) rfl dX8_markOf_52 ?_
        refine s_toe (b := nI (c 5)) ((hM.2 _ _ rfl).trans (hc 5 (by decide)).1) ?_
        refine s_istore_n (lv' := [(3, .int (nI (c 5))), (0, .ref (w.2.2 0)), (1, .int (nI k)), (2, .int (nI 0))]) C dX8_markOf_53 rfl (by decide) rfl ?_
        refine s_iload_n C 3 dX8_markOf_54 rfl ?_
        refine s_iconst (v := nI 3) C dX8_markOf_55 (by decide) ?_
        refine s_icmp_neN 65 C dX8_markOf_56 (by decide) (by omega) (by omega) (fun h56 => ?_) (fun h56 => ?_)
        · refine s_iload_n C 3 dX8_markOf_65 rfl ?_
          refine s_iconst (v := nI 1) C dX8_markOf_66 (by decide) ?_
          refine s_icmp_neN 77 C dX8_markOf_67 (by decide) (by omega) (by omega) (fun h67 => ?_) (fun h67 => ?_)
          · refine s_iload_n C 3 dX8_markOf_77 rfl ?_
            refine s_iconst (v := nI 2) C dX8_markOf_78 (by decide) ?_
            refine s_icmp_neN 96 C dX8_markOf_79 (by decide) (by omega) (by omega) (fun h79 => ?_) (fun h79 => ?_)
            · refine s_iload_n C 0 dX8_markOf_96 rfl ?_
              exact s_ireturn C hA dX8_markOf_97 (by rw [ih_vlM_0, ih_trM_0]; exact ⟨rfl, hM⟩)
            · exact absurd h79 (by decide)
          · exact absurd h67 (by decide)
        · exact absurd h56 (by decide)
      · exact absurd h27 (by decide)
    · exact absurd h16 (by decide)
  · exact absurd h2 (by decide)

set_option maxHeartbeats 4000000 in
set_option maxRecDepth 100000 in
theorem c_X8_markOf_1 (l : Launch) (w : ih_Wd) (S : ih_Sg) (T : ih_TT) (hM : ih_RM S T) (hA2 : ih_InvA T) (k : Nat) (hk : k < 12) (c : Nat → Nat) (hc : ∀ a, a < 7 → T 4 (7 * k + a) = nI (c a) ∧ c a ≤ 1000) : ih_Ci l yX8_markOf wsX8_markOf 2 w ih_shM [.ref (w.2.2 0), .int (nI k), .int (nI 1)] S (fun r S' => r = nI (ih_vlM c 1) ∧ ih_RM S' (ih_trM T 1)) := by
  refine ih_bodyi (ret := some .int) rfl rfl (Nat.le_of_ble_eq_true rfl) ?_
  intro x A hA C
  have C : ih_Ok x w A cX8_markOf 4 RX8 wsX8_markOf (ih_rm 2) (some .int) := C
  show ih_Mw x w ih_shM A (ih_Qi x w ih_shM A _) 4 0 0 0 [(0, .ref (w.2.2 0)), (1, .int (nI k)), (2, .int (nI 1))] [] S
  have hc0 := (hc 0 (by decide)).2
  have hc5 := (hc 5 (by decide)).2
  have hc6 := (hc 6 (by decide)).2
  refine s_iload_n C 2 dX8_markOf_0 rfl ?_
  refine s_iconst (v := nI 2) C dX8_markOf_1 (by decide) ?_
  refine s_icmp_neN 11 C dX8_markOf_2 (by decide) (by omega) (by omega) (fun h2 => ?_) (fun h2 => ?_)
  · refine s_iload_n C 2 dX8_markOf_11 rfl ?_
    refine s_iconst (v := nI 1) C dX8_markOf_12 (by decide) ?_
    refine s_callSi 2 C (c_X8_isOf _ w _ 1 1 (by decide) (by decide)) gX8_markOf_X8_isOf rfl (by decide +kernel) (by decide) (by decide) rfl rfl (Nat.le_of_ble_eq_true rfl) dX8_markOf_13 ?_
    rintro ro S2 ⟨hro, rfl⟩
    subst hro
    refine s_if_eqN 25 C dX8_markOf_16 (by decide) (by omega) (fun h16 => ?_) (fun h16 => ?_)
    · exact absurd h16 (by decide)
    · refine s_aload_n C 0 dX8_markOf_19 rfl ?_
      refine s_bipush (v := nI 21) C dX8_markOf_20 (by decide) ?_
      refine s_callVv 1 C (c_X8_began _ w _ _ hM hA2 _) gX8_markOf_X8_began rfl (by decide +kernel) (by decide) (by decide) (by decide) rfl (by decide) rfl rfl rfl (Nat.le_of_ble_eq_true rfl) dX8_markOf_22 ?_
      rintro S hM
      replace hc := ih_bg_c (b := 21) hc
      replace hA2 := ih_bg_A (b := 21) hA2
      refine s_iload_n C 2 dX8_markOf_25 rfl ?_
      refine s_iconst (v := nI 3) C dX8_markOf_26 (by decide) ?_
      refine s_icmp_neN 36 C dX8_markOf_27 (by decide) (by omega) (by omega) (fun h27 => ?_) (fun h27 => ?_)
      · refine s_aload_n C 0 dX8_markOf_36 rfl ?_
        refine s_bipush (v := nI 20) C dX8_markOf_37 (by decide) ?_
        refine s_callVv 1 C (c_X8_began _ w _ _ hM hA2 _) gX8_markOf_X8_began rfl (by decide +kernel) (by decide) (by decide) (by decide) rfl (by decide) rfl rfl rfl (Nat.le_of_ble_eq_true rfl) dX8_markOf_39 ?_
        rintro S hM
        replace hc := ih_bg_c (b := 20) hc
        replace hA2 := ih_bg_A (b := 20) hA2
        refine s_aload_n C 0 dX8_markOf_42 rfl ?_
        refine s_getR C 8 6 (hM.1 _ _ _ rfl) (by decide) rfl (by decide) rfl (fun _ h => List.mem_cons_of_mem _ (List.mem_append_right _ h)) (by decide) rfl (by decide +kernel) dX8_markOf_43 ?_
        refine s_bipush (v := nI 7) C dX8_markOf_46 (by decide) ?_
        refine s_iload_n C 1 dX8_markOf_48 rfl ?_
        refine s_imulN C dX8_markOf_49 ?_
        refine s_iconst (v := nI 5) C dX8_markOf_50 (by decide) ?_
        refine s_iaddN C dX8_markOf_51 ?_
        refine s_iaload C 84 ((7 * k) + 5) rfl rfl (by omega) (by decide) (by decide) rfl dX8_markOf_52 ?_
        refine s_toe (b := nI (c 5)) ((hM.2 _ _ rfl).trans (hc 5 (by decide)).1) ?_
        refine s_istore_n (lv' := [(3, .int (nI (c 5))), (0, .ref (w.2.2 0)), (1, .int (nI k)), (2, .int (nI 1))]) C dX8_markOf_53 rfl (by decide) rfl ?_
        refine s_iload_n C 3 dX8_markOf_54 rfl ?_
        refine s_iconst (v := nI 3) C dX8_markOf_55 (by decide) ?_
        refine s_icmp_neN 65 C dX8_markOf_56 (by decide) (by omega) (by omega) (fun h56 => ?_) (fun h56 => ?_)
        · refine s_iload_n C 3 dX8_markOf_65 rfl ?_
          refine s_iconst (v := nI 1) C dX8_markOf_66 (by decide) ?_
          refine s_icmp_neN 77 C dX8_markOf_67 (by decide) (by omega) (by omega) (fun h67 => ?_) (fun h67 => ?_)
          · exact absurd h67 (by decide)
          · refine s_iload_n C 0 dX8_markOf_70 rfl ?_
            refine s_bipush (v := nI 100) C dX8_markOf_71 (by decide) ?_
            refine s_iaddN C dX8_markOf_73 ?_
            refine s_goto C 97 dX8_markOf_74 (by decide) ?_
            exact s_ireturn C hA dX8_markOf_97 (by rw [ih_vlM_1, ih_trM_1]; exact ⟨rfl, hM⟩)
        · exact absurd h56 (by decide)
      · exact absurd h27 (by decide)
  · exact absurd h2 (by decide)

set_option maxHeartbeats 4000000 in
set_option maxRecDepth 100000 in
theorem c_X8_markOf_2 (l : Launch) (w : ih_Wd) (S : ih_Sg) (T : ih_TT) (hM : ih_RM S T) (hA2 : ih_InvA T) (k : Nat) (hk : k < 12) (c : Nat → Nat) (hc : ∀ a, a < 7 → T 4 (7 * k + a) = nI (c a) ∧ c a ≤ 1000) : ih_Ci l yX8_markOf wsX8_markOf 2 w ih_shM [.ref (w.2.2 0), .int (nI k), .int (nI 2)] S (fun r S' => r = nI (ih_vlM c 2) ∧ ih_RM S' (ih_trM T 2)) := by
  refine ih_bodyi (ret := some .int) rfl rfl (Nat.le_of_ble_eq_true rfl) ?_
  intro x A hA C
  have C : ih_Ok x w A cX8_markOf 4 RX8 wsX8_markOf (ih_rm 2) (some .int) := C
  show ih_Mw x w ih_shM A (ih_Qi x w ih_shM A _) 4 0 0 0 [(0, .ref (w.2.2 0)), (1, .int (nI k)), (2, .int (nI 2))] [] S
  have hc0 := (hc 0 (by decide)).2
  have hc5 := (hc 5 (by decide)).2
  have hc6 := (hc 6 (by decide)).2
  refine s_iload_n C 2 dX8_markOf_0 rfl ?_
  refine s_iconst (v := nI 2) C dX8_markOf_1 (by decide) ?_
  refine s_icmp_neN 11 C dX8_markOf_2 (by decide) (by omega) (by omega) (fun h2 => ?_) (fun h2 => ?_)
  · exact absurd h2 (by decide)
  · refine s_aload_n C 0 dX8_markOf_5 rfl ?_
    refine s_bipush (v := nI 22) C dX8_markOf_6 (by decide) ?_
    refine s_callVv 1 C (c_X8_began _ w _ _ hM hA2 _) gX8_markOf_X8_began rfl (by decide +kernel) (by decide) (by decide) (by decide) rfl (by decide) rfl rfl rfl (Nat.le_of_ble_eq_true rfl) dX8_markOf_8 ?_
    rintro S hM
    replace hc := ih_bg_c (b := 22) hc
    replace hA2 := ih_bg_A (b := 22) hA2
    refine s_iload_n C 2 dX8_markOf_11 rfl ?_
    refine s_iconst (v := nI 1) C dX8_markOf_12 (by decide) ?_
    refine s_callSi 2 C (c_X8_isOf _ w _ 2 1 (by decide) (by decide)) gX8_markOf_X8_isOf rfl (by decide +kernel) (by decide) (by decide) rfl rfl (Nat.le_of_ble_eq_true rfl) dX8_markOf_13 ?_
    rintro ro S2 ⟨hro, rfl⟩
    subst hro
    refine s_if_eqN 25 C dX8_markOf_16 (by decide) (by omega) (fun h16 => ?_) (fun h16 => ?_)
    · exact absurd h16 (by decide)
    · refine s_aload_n C 0 dX8_markOf_19 rfl ?_
      refine s_bipush (v := nI 21) C dX8_markOf_20 (by decide) ?_
      refine s_callVv 1 C (c_X8_began _ w _ _ hM hA2 _) gX8_markOf_X8_began rfl (by decide +kernel) (by decide) (by decide) (by decide) rfl (by decide) rfl rfl rfl (Nat.le_of_ble_eq_true rfl) dX8_markOf_22 ?_
      rintro S hM
      replace hc := ih_bg_c (b := 21) hc
      replace hA2 := ih_bg_A (b := 21) hA2
      refine s_iload_n C 2 dX8_markOf_25 rfl ?_
      refine s_iconst (v := nI 3) C dX8_markOf_26 (by decide) ?_
      refine s_icmp_neN 36 C dX8_markOf_27 (by decide) (by omega) (by omega) (fun h27 => ?_) (fun h27 => ?_)
      · refine s_aload_n C 0 dX8_markOf_36 rfl ?_
        refine s_bipush (v := nI 20) C dX8_markOf_37 (by decide) ?_
        refine s_callVv 1 C (c_X8_began _ w _ _ hM hA2 _) gX8_markOf_X8_began rfl (by decide +kernel) (by decide) (by decide) (by decide) rfl (by decide) rfl rfl rfl (Nat.le_of_ble_eq_true rfl) dX8_markOf_39 ?_
        rintro S hM
        replace hc := ih_bg_c (b := 20) hc
        replace hA2 := ih_bg_A (b := 20) hA2
        refine s_aload_n C 0 dX8_markOf_42 rfl ?_
        refine s_getR C 8 6 (hM.1 _ _ _ rfl) (by decide) rfl (by decide) rfl (fun _ h => List.mem_cons_of_mem _ (List.mem_append_right _ h)) (by decide) rfl (by decide +kernel) dX8_markOf_43 ?_
        refine s_bipush (v := nI 7) C dX8_markOf_46 (by decide) ?_
        refine s_iload_n C 1 dX8_markOf_48 rfl ?_
        refine s_imulN C dX8_markOf_49 ?_
        refine s_iconst (v := nI 5) C dX8_markOf_50 (by decide) ?_
        refine s_iaddN C dX8_markOf_51 ?_
        refine s_iaload C 84 ((7 * k) + 5) rfl rfl (by omega) (by decide) (by decide) rfl dX8_markOf_52 ?_
        refine s_toe (b := nI (c 5)) ((hM.2 _ _ rfl).trans (hc 5 (by decide)).1) ?_
        refine s_istore_n (lv' := [(3, .int (nI (c 5))), (0, .ref (w.2.2 0)), (1, .int (nI k)), (2, .int (nI 2))]) C dX8_markOf_53 rfl (by decide) rfl ?_
        refine s_iload_n C 3 dX8_markOf_54 rfl ?_
        refine s_iconst (v := nI 3) C dX8_markOf_55 (by decide) ?_
        refine s_icmp_neN 65 C dX8_markOf_56 (by decide) (by omega) (by omega) (fun h56 => ?_) (fun h56 => ?_)
        · refine s_iload_n C 3 dX8_markOf_65 rfl ?_
          refine s_iconst (v := nI 1) C dX8_markOf_66 (by decide) ?_
          refine s_icmp_neN 77 C dX8_markOf_67 (by decide) (by omega) (by omega) (fun h67 => ?_) (fun h67 => ?_)
          · refine s_iload_n C 3 dX8_markOf_77 rfl ?_
            refine s_iconst (v := nI 2) C dX8_markOf_78 (by decide) ?_
            refine s_icmp_neN 96 C dX8_markOf_79 (by decide) (by omega) (by omega) (fun h79 => ?_) (fun h79 => ?_)
            · exact absurd h79 (by decide)
            · refine s_iload_n C 0 dX8_markOf_82 rfl ?_
              refine s_bipush (v := nI 100) C dX8_markOf_83 (by decide) ?_
              refine s_iaddN C dX8_markOf_85 ?_
              refine s_aload_n C 1 dX8_markOf_86 rfl ?_
              refine s_iload_n C 2 dX8_markOf_87 rfl ?_
              refine s_iload_n C 3 dX8_markOf_88 rfl ?_
              refine s_callVi 2 C (c_X8_safeSize_2 _ w _ _ hM hA2 k hk c hc) gX8_markOf_X8_safeSize rfl (by decide +kernel) (by decide) (by decide) (by decide) rfl (by decide) rfl rfl rfl (Nat.le_of_ble_eq_true rfl) dX8_markOf_89 ?_
              rintro rz S ⟨hrz, hM⟩
              subst hrz
              refine s_iaddN C dX8_markOf_92 ?_
              refine s_goto C 97 dX8_markOf_93 (by decide) ?_
              exact s_ireturn C hA dX8_markOf_97 (by rw [ih_vlM_2, ih_trM_2]; exact ⟨rfl, hM⟩)
          · exact absurd h67 (by decide)
        · exact absurd h56 (by decide)
      · exact absurd h27 (by decide)

set_option maxHeartbeats 4000000 in
set_option maxRecDepth 100000 in
theorem c_X8_markOf_3 (l : Launch) (w : ih_Wd) (S : ih_Sg) (T : ih_TT) (hM : ih_RM S T) (hA2 : ih_InvA T) (k : Nat) (hk : k < 12) (c : Nat → Nat) (hc : ∀ a, a < 7 → T 4 (7 * k + a) = nI (c a) ∧ c a ≤ 1000) : ih_Ci l yX8_markOf wsX8_markOf 2 w ih_shM [.ref (w.2.2 0), .int (nI k), .int (nI 3)] S (fun r S' => r = nI (ih_vlM c 3) ∧ ih_RM S' (ih_trM T 3)) := by
  refine ih_bodyi (ret := some .int) rfl rfl (Nat.le_of_ble_eq_true rfl) ?_
  intro x A hA C
  have C : ih_Ok x w A cX8_markOf 4 RX8 wsX8_markOf (ih_rm 2) (some .int) := C
  show ih_Mw x w ih_shM A (ih_Qi x w ih_shM A _) 4 0 0 0 [(0, .ref (w.2.2 0)), (1, .int (nI k)), (2, .int (nI 3))] [] S
  have hc0 := (hc 0 (by decide)).2
  have hc5 := (hc 5 (by decide)).2
  have hc6 := (hc 6 (by decide)).2
  refine s_iload_n C 2 dX8_markOf_0 rfl ?_
  refine s_iconst (v := nI 2) C dX8_markOf_1 (by decide) ?_
  refine s_icmp_neN 11 C dX8_markOf_2 (by decide) (by omega) (by omega) (fun h2 => ?_) (fun h2 => ?_)
  · refine s_iload_n C 2 dX8_markOf_11 rfl ?_
    refine s_iconst (v := nI 1) C dX8_markOf_12 (by decide) ?_
    refine s_callSi 2 C (c_X8_isOf _ w _ 3 1 (by decide) (by decide)) gX8_markOf_X8_isOf rfl (by decide +kernel) (by decide) (by decide) rfl rfl (Nat.le_of_ble_eq_true rfl) dX8_markOf_13 ?_
    rintro ro S2 ⟨hro, rfl⟩
    subst hro
    refine s_if_eqN 25 C dX8_markOf_16 (by decide) (by omega) (fun h16 => ?_) (fun h16 => ?_)
    · refine s_iload_n C 2 dX8_markOf_25 rfl ?_
      refine s_iconst (v := nI 3) C dX8_markOf_26 (by decide) ?_
      refine s_icmp_neN 36 C dX8_markOf_27 (by decide) (by omega) (by omega) (fun h27 => ?_) (fun h27 => ?_)
      · exact absurd h27 (by decide)
      · refine s_aload_n C 0 dX8_markOf_30 rfl ?_
        refine s_bipush (v := nI 23) C dX8_markOf_31 (by decide) ?_
        refine s_callVv 1 C (c_X8_began _ w _ _ hM hA2 _) gX8_markOf_X8_began rfl (by decide +kernel) (by decide) (by decide) (by decide) rfl (by decide) rfl rfl rfl (Nat.le_of_ble_eq_true rfl) dX8_markOf_33 ?_
        rintro S hM
        replace hc := ih_bg_c (b := 23) hc
        replace hA2 := ih_bg_A (b := 23) hA2
        refine s_aload_n C 0 dX8_markOf_36 rfl ?_
        refine s_bipush (v := nI 20) C dX8_markOf_37 (by decide) ?_
        refine s_callVv 1 C (c_X8_began _ w _ _ hM hA2 _) gX8_markOf_X8_began rfl (by decide +kernel) (by decide) (by decide) (by decide) rfl (by decide) rfl rfl rfl (Nat.le_of_ble_eq_true rfl) dX8_markOf_39 ?_
        rintro S hM
        replace hc := ih_bg_c (b := 20) hc
        replace hA2 := ih_bg_A (b := 20) hA2
        refine s_aload_n C 0 dX8_markOf_42 rfl ?_
        refine s_getR C 8 6 (hM.1 _ _ _ rfl) (by decide) rfl (by decide) rfl (fun _ h => List.mem_cons_of_mem _ (List.mem_append_right _ h)) (by decide) rfl (by decide +kernel) dX8_markOf_43 ?_
        refine s_bipush (v := nI 7) C dX8_markOf_46 (by decide) ?_
        refine s_iload_n C 1 dX8_markOf_48 rfl ?_
        refine s_imulN C dX8_markOf_49 ?_
        refine s_iconst (v := nI 5) C dX8_markOf_50 (by decide) ?_
        refine s_iaddN C dX8_markOf_51 ?_
        refine s_iaload C 84 ((7 * k) + 5) rfl rfl (by omega) (by decide) (by decide) rfl dX8_markOf_52 ?_
        refine s_toe (b := nI (c 5)) ((hM.2 _ _ rfl).trans (hc 5 (by decide)).1) ?_
        refine s_istore_n (lv' := [(3, .int (nI (c 5))), (0, .ref (w.2.2 0)), (1, .int (nI k)), (2, .int (nI 3))]) C dX8_markOf_53 rfl (by decide) rfl ?_
        refine s_iload_n C 3 dX8_markOf_54 rfl ?_
        refine s_iconst (v := nI 3) C dX8_markOf_55 (by decide) ?_
        refine s_icmp_neN 65 C dX8_markOf_56 (by decide) (by omega) (by omega) (fun h56 => ?_) (fun h56 => ?_)
        · exact absurd h56 (by decide)
        · refine s_iload_n C 0 dX8_markOf_59 rfl ?_
          refine s_iconst (v := nI 2) C dX8_markOf_60 (by decide) ?_
          refine s_idivN C dX8_markOf_61 (by omega) (by omega) (by omega) ?_
          refine s_goto C 97 dX8_markOf_62 (by decide) ?_
          exact s_ireturn C hA dX8_markOf_97 (by rw [ih_vlM_3, ih_trM_3]; exact ⟨rfl, hM⟩)
    · exact absurd h16 (by decide)
  · exact absurd h2 (by decide)

theorem ih_a4 {a : Nat} (h : a < 4) : a = 0 ∨ a = 1 ∨ a = 2 ∨ a = 3 := by omega
theorem c_X8_markOf (l : Launch) (w : ih_Wd) (S : ih_Sg) (T : ih_TT) (hM : ih_RM S T) (hA2 : ih_InvA T) (k : Nat) (hk : k < 12) (c : Nat → Nat) (hc : ∀ a, a < 7 → T 4 (7 * k + a) = nI (c a) ∧ c a ≤ 1000) (kd : Nat) (hkd : kd < 4) : ih_Ci l yX8_markOf wsX8_markOf 2 w ih_shM [.ref (w.2.2 0), .int (nI k), .int (nI kd)] S (fun r S' => r = nI (ih_vlM c kd) ∧ ih_RM S' (ih_trM T kd)) := by
  rcases ih_a4 hkd with rfl | rfl | rfl | rfl
  · exact c_X8_markOf_0 l w S T hM hA2 k hk c hc
  · exact c_X8_markOf_1 l w S T hM hA2 k hk c hc
  · exact c_X8_markOf_2 l w S T hM hA2 k hk c hc
  · exact c_X8_markOf_3 l w S T hM hA2 k hk c hc
