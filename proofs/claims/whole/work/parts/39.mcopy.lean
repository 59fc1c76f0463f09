theorem ih_cpy_0 {T : ih_TT} {a b : Nat} : ih_cpy T a b 0 = T := by
  funext c j
  unfold ih_cpy
  rw [if_neg (by omega)]
theorem ih_cpy_out {T : ih_TT} {a b n j : Nat} (h : ¬ (b ≤ j ∧ j < b + n)) : ih_cpy T a b n 3 j = T 3 j := by
  unfold ih_cpy
  rw [if_neg (fun q => h q.2)]
theorem ih_cpy_up {T : ih_TT} {a b k : Nat} : ih_u2 (ih_cpy T a b k) 3 (b + k) (T 3 (a + k)) = ih_cpy T a b (k + 1) := by
  funext c j
  unfold ih_u2 ih_cpy
  by_cases h : c = 3 ∧ j = b + k
  · rw [if_pos h, if_pos ⟨h.1, by omega, by omega⟩, show a + (j - b) = a + k by omega]
  · rw [if_neg h]
    by_cases h2 : c = 3 ∧ b ≤ j ∧ j < b + k
    · rw [if_pos h2, if_pos ⟨h2.1, by omega, by omega⟩]
    · rw [if_neg h2, if_neg (by omega)]
theorem ih_cpy_dn {T : ih_TT} {a b n k : Nat} (hk : k < n) : ih_u2 (ih_cpy T (a + (n - k)) (b + (n - k)) k) 3 (b + (n - 1 - k)) (T 3 (a + (n - 1 - k))) = ih_cpy T (a + (n - (k + 1))) (b + (n - (k + 1))) (k + 1) := by
  funext c j
  unfold ih_u2 ih_cpy
  by_cases h : c = 3 ∧ j = b + (n - 1 - k)
  · rw [if_pos h, if_pos ⟨h.1, by omega, by omega⟩, show a + (n - (k + 1)) + (j - (b + (n - (k + 1)))) = a + (n - 1 - k) by omega]
  · rw [if_neg h]
    by_cases h2 : c = 3 ∧ b + (n - k) ≤ j ∧ j < b + (n - k) + k
    · rw [if_pos h2, if_pos ⟨h2.1, by omega, by omega⟩, show a + (n - (k + 1)) + (j - (b + (n - (k + 1)))) = a + (n - k) + (j - (b + (n - k))) by omega]
    · rw [if_neg h2, if_neg (by omega)]
/-- two places of the order exchanged -/
def ih_xc (T : ih_TT) (a b : Nat) : ih_TT := ih_u2 (ih_u2 T 5 a (T 5 b)) 5 b (T 5 a)
set_option maxHeartbeats 4000000 in
set_option maxRecDepth 100000 in
theorem c_X8_copy (l : Launch) (w : ih_Wd) (S : ih_Sg) (T : ih_TT) (hM : ih_RM S T) (hI : ih_Inv T) (a i b j n : Int32) : ih_Ci l yX8_copy wsX8_copy 2 w ih_shM [.ref (w.2.2 0), .int a, .int i, .int b, .int j, .int n] S (fun r S' => r = (sp_copy T a i b j n).1 ∧ ih_RM S' (sp_copy T a i b j n).2) := by
  refine ih_bodyi (ret := some .int) rfl rfl (Nat.le_of_ble_eq_true rfl) ?_
  intro x A hA C
  have C : ih_Ok x w A cX8_copy 9 RX8 wsX8_copy (ih_rm 2) (some .int) := C
  show ih_Mw x w ih_shM A (ih_Qi x w ih_shM A _) 9 0 0 0 [(0, .ref (w.2.2 0)), (1, .int a), (2, .int i), (3, .int b), (4, .int j), (5, .int n)] [] S
  obtain ⟨Q, hQ⟩ : ∃ Q, Q = ih_Qi x w ih_shM A (fun r S' => r = (sp_copy T a i b j n).1 ∧ ih_RM S' (sp_copy T a i b j n).2) := ⟨_, rfl⟩
  rw [show ih_Qi x w ih_shM A _ = Q from hQ.symm]
  refine s_aload_n C 0 dX8_copy_0 rfl ?_
  refine s_iconst (v := nI 0) C dX8_copy_1 (by decide) ?_
  refine s_putI (ty := .int) C 8 0 tyX8 tyX8_ok nmX8 (by decide) rfl (by decide) rfl (fun _ h => List.mem_cons_of_mem _ (List.mem_append_right _ h)) (by decide) rfl (by decide +kernel) rfl (by decide +kernel) rfl rfl dX8_copy_2 ?_
  refine m_hide hM rfl (fun S hM => ?_)
  refine s_iload_n C 1 dX8_copy_5 rfl ?_
  refine s_callSi 1 C (c_X8_isSheet _ w _ _) gX8_copy_X8_isSheet rfl (by decide +kernel) (by decide) (by decide) rfl rfl (Nat.le_of_ble_eq_true rfl) dX8_copy_6 ?_
  rintro rs6 S2 ⟨hrs6, rfl⟩
  refine s_if_eq C 19 dX8_copy_9 (by decide) (fun h9 => ?_) (fun h9 => ?_)
  · replace h9 := ih_b0 hrs6 h9
    refine s_ldc (v := (-1000001)) C (by decide +kernel) dX8_copy_19 ?_
    rw [hQ]
    exact s_ireturn C hA dX8_copy_21 (by rw [sp_copy, if_neg (by omega)]; exact ⟨rfl, hM⟩)
  · replace h9 := ih_b1 hrs6 h9
    refine s_iload_n C 3 dX8_copy_12 rfl ?_
    refine s_callSi 1 C (c_X8_isSheet _ w _ _) gX8_copy_X8_isSheet rfl (by decide +kernel) (by decide) (by decide) rfl rfl (Nat.le_of_ble_eq_true rfl) dX8_copy_13 ?_
    rintro rs13 S2 ⟨hrs13, rfl⟩
    refine s_if_ne C 22 dX8_copy_16 (by decide) (fun h16 => ?_) (fun h16 => ?_)
    · replace h16 := ih_b1 hrs13 h16
      obtain ⟨an, han, rfl, hant⟩ := ih_nat (a := a) h9.1
      have hanb : an < 8 := by omega
      obtain ⟨bn, hbn, rfl, hbnt⟩ := ih_nat (a := b) h16.1
      have hbnb : bn < 8 := by omega
      have hma : ih_mn T an ≤ 60 := (hI.1 an (by omega)).2.2
      have hmb : ih_mn T bn ≤ 60 := (hI.1 bn (by omega)).2.2
      refine s_aload_n C 0 dX8_copy_22 rfl ?_
      refine s_iconst (v := nI 0) C dX8_copy_23 (by decide) ?_
      refine s_putI (ty := .int) C 8 1 tyX8 tyX8_ok nmX8 (by decide) rfl (by decide) rfl (fun _ h => List.mem_cons_of_mem _ (List.mem_append_right _ h)) (by decide) rfl (by decide +kernel) rfl (by decide +kernel) rfl rfl dX8_copy_24 ?_
      refine m_w hM (fun S hM => ?_)
      refine s_aload_n C 0 dX8_copy_27 rfl ?_
      refine s_getR C 8 2 (hM.1 _ _ _ rfl) (by decide) rfl (by decide) rfl (fun _ h => List.mem_cons_of_mem _ (List.mem_append_right _ h)) (by decide) rfl (by decide +kernel) dX8_copy_28 ?_
      refine s_iload_n C 1 dX8_copy_31 rfl ?_
      refine s_iaload C 8 (an) rfl rfl (by omega) (by decide) (by decide) rfl dX8_copy_32 ?_
      refine s_toe (b := T 1 an) (hM.2 _ _ rfl) ?_
      refine s_if_lt C 45 dX8_copy_33 (by decide) (fun h33 => ?_) (fun h33 => ?_)
      · simp only [ih_lei, ih_lti, ih_t0] at h33
        refine s_aload_n C 0 dX8_copy_45 rfl ?_
        refine s_iconst (v := nI 1) C dX8_copy_46 (by decide) ?_
        refine s_callVi 1 C (c_X8_found _ w _ _) gX8_copy_X8_found rfl (by decide +kernel) (by decide) (by decide) (by decide) rfl (by decide) rfl rfl rfl (Nat.le_of_ble_eq_true rfl) dX8_copy_47 ?_
        rintro rf S2 ⟨hrf, rfl⟩
        refine m_w hM (fun S hM => ?_)
        rw [hQ]
        exact s_ireturn C hA dX8_copy_50 (by rw [sp_copy, ih_n_nI han, ih_n_nI hbn, if_pos (by omega), if_pos (by omega)]; exact ⟨hrf, hM⟩)
      · simp only [ih_lei, ih_lti, ih_t0] at h33
        refine s_aload_n C 0 dX8_copy_36 rfl ?_
        refine s_getR C 8 2 (hM.1 _ _ _ rfl) (by decide) rfl (by decide) rfl (fun _ h => List.mem_cons_of_mem _ (List.mem_append_right _ h)) (by decide) rfl (by decide +kernel) dX8_copy_37 ?_
        refine s_iload_n C 3 dX8_copy_40 rfl ?_
        refine s_iaload C 8 (bn) rfl rfl (by omega) (by decide) (by decide) rfl dX8_copy_41 ?_
        refine s_toe (b := T 1 bn) (hM.2 _ _ rfl) ?_
        refine s_if_ge C 51 dX8_copy_42 (by decide) (fun h42 => ?_) (fun h42 => ?_)
        · simp only [ih_lei, ih_lti, ih_t0] at h42
          refine s_aload_n C 0 dX8_copy_51 rfl ?_
          refine s_getR C 8 2 (hM.1 _ _ _ rfl) (by decide) rfl (by decide) rfl (fun _ h => List.mem_cons_of_mem _ (List.mem_append_right _ h)) (by decide) rfl (by decide +kernel) dX8_copy_52 ?_
          refine s_iload_n C 1 dX8_copy_55 rfl ?_
          refine s_iaload C 8 (an) rfl rfl (by omega) (by decide) (by decide) rfl dX8_copy_56 ?_
          refine s_toe (b := T 1 an) (hM.2 _ _ rfl) ?_
          refine s_aload_n C 0 dX8_copy_57 rfl ?_
          refine s_getR C 8 2 (hM.1 _ _ _ rfl) (by decide) rfl (by decide) rfl (fun _ h => List.mem_cons_of_mem _ (List.mem_append_right _ h)) (by decide) rfl (by decide +kernel) dX8_copy_58 ?_
          refine s_iload_n C 3 dX8_copy_61 rfl ?_
          refine s_iaload C 8 (bn) rfl rfl (by omega) (by decide) (by decide) rfl dX8_copy_62 ?_
          refine s_toe (b := T 1 bn) (hM.2 _ _ rfl) ?_
          refine s_icmp_eq C 72 dX8_copy_63 (by decide) (fun h63 => ?_) (fun h63 => ?_)
          · refine s_iload_n C 2 dX8_copy_72 rfl ?_
            refine s_if_lt C 121 dX8_copy_73 (by decide) (fun h73 => ?_) (fun h73 => ?_)
            · simp only [ih_lei, ih_lti, ih_t0] at h73
              refine s_aload_n C 0 dX8_copy_121 rfl ?_
              refine s_iconst (v := nI 2) C dX8_copy_122 (by decide) ?_
              refine s_callVi 1 C (c_X8_found _ w _ _) gX8_copy_X8_found rfl (by decide +kernel) (by decide) (by decide) (by decide) rfl (by decide) rfl rfl rfl (Nat.le_of_ble_eq_true rfl) dX8_copy_123 ?_
              rintro rf S2 ⟨hrf, rfl⟩
              refine m_w hM (fun S hM => ?_)
              rw [hQ]
              exact s_ireturn C hA dX8_copy_126 (by rw [sp_copy, if_pos (by omega), ih_n_nI han, ih_n_nI hbn, if_neg (by omega), if_pos h63, if_neg (by omega)]; exact ⟨hrf, hM⟩)
            · simp only [ih_lei, ih_lti, ih_t0] at h73
              obtain ⟨ii, hii, rfl, hiit⟩ := ih_nat (a := i) (by omega)
              refine s_iload C 4 dX8_copy_76 rfl ?_
              refine s_if_lt C 121 dX8_copy_78 (by decide) (fun h78 => ?_) (fun h78 => ?_)
              · simp only [ih_lei, ih_lti, ih_t0] at h78
                refine s_aload_n C 0 dX8_copy_121 rfl ?_
                refine s_iconst (v := nI 2) C dX8_copy_122 (by decide) ?_
                refine s_callVi 1 C (c_X8_found _ w _ _) gX8_copy_X8_found rfl (by decide +kernel) (by decide) (by decide) (by decide) rfl (by decide) rfl rfl rfl (Nat.le_of_ble_eq_true rfl) dX8_copy_123 ?_
                rintro rf S2 ⟨hrf, rfl⟩
                refine m_w hM (fun S hM => ?_)
                rw [hQ]
                exact s_ireturn C hA dX8_copy_126 (by rw [sp_copy, if_pos (by omega), ih_n_nI han, ih_n_nI hbn, if_neg (by omega), if_pos h63, if_neg (by omega)]; exact ⟨hrf, hM⟩)
              · simp only [ih_lei, ih_lti, ih_t0] at h78
                obtain ⟨jj, hjj, rfl, hjjt⟩ := ih_nat (a := j) (by omega)
                refine s_iload C 5 dX8_copy_81 rfl ?_
                refine s_if_lt C 121 dX8_copy_83 (by decide) (fun h83 => ?_) (fun h83 => ?_)
                · simp only [ih_lei, ih_lti, ih_t0] at h83
                  refine s_aload_n C 0 dX8_copy_121 rfl ?_
                  refine s_iconst (v := nI 2) C dX8_copy_122 (by decide) ?_
                  refine s_callVi 1 C (c_X8_found _ w _ _) gX8_copy_X8_found rfl (by decide +kernel) (by decide) (by decide) (by decide) rfl (by decide) rfl rfl rfl (Nat.le_of_ble_eq_true rfl) dX8_copy_123 ?_
                  rintro rf S2 ⟨hrf, rfl⟩
                  refine m_w hM (fun S hM => ?_)
                  rw [hQ]
                  exact s_ireturn C hA dX8_copy_126 (by rw [sp_copy, if_pos (by omega), ih_n_nI han, ih_n_nI hbn, if_neg (by omega), if_pos h63, if_neg (by omega)]; exact ⟨hrf, hM⟩)
                · simp only [ih_lei, ih_lti, ih_t0] at h83
                  obtain ⟨nn, hnn, rfl, hnnt⟩ := ih_nat (a := n) (by omega)
                  refine s_iload_n C 2 dX8_copy_86 rfl ?_
                  refine s_i2lN C dX8_copy_87 (by omega) ?_
                  refine s_iload C 5 dX8_copy_88 rfl ?_
                  refine s_i2lN C dX8_copy_90 (by omega) ?_
                  refine s_laddN C dX8_copy_91 ?_
                  refine s_aload_n C 0 dX8_copy_92 rfl ?_
                  refine s_getR C 8 3 (hM.1 _ _ _ rfl) (by decide) rfl (by decide) rfl (fun _ h => List.mem_cons_of_mem _ (List.mem_append_right _ h)) (by decide) rfl (by decide +kernel) dX8_copy_93 ?_
                  refine s_iload_n C 1 dX8_copy_96 rfl ?_
                  refine s_iaload C 8 (an) rfl rfl (by omega) (by decide) (by decide) rfl dX8_copy_97 ?_
                  refine s_toe (b := T 2 an) (hM.2 _ _ rfl) ?_
                  refine s_toe (b := nI (ih_mn T an)) (hI.1 an (by omega)).2.1 ?_
                  refine s_i2lN C dX8_copy_98 (by omega) ?_
                  refine s_lcmp C dX8_copy_99 ?_
                  refine s_if_gt C 121 dX8_copy_100 (by decide) (fun h100 => ?_) (fun h100 => ?_)
                  · simp only [ih_t0, lg_cmp_lt, lg_cmp_gt, lg_cmp_le, lg_cmp_ge, ih_lel, ih_ltl, ih_tl (n := ii + nn) (by omega), ih_tl (n := ih_mn T an) (by omega)] at h100
                    refine s_aload_n C 0 dX8_copy_121 rfl ?_
                    refine s_iconst (v := nI 2) C dX8_copy_122 (by decide) ?_
                    refine s_callVi 1 C (c_X8_found _ w _ _) gX8_copy_X8_found rfl (by decide +kernel) (by decide) (by decide) (by decide) rfl (by decide) rfl rfl rfl (Nat.le_of_ble_eq_true rfl) dX8_copy_123 ?_
                    rintro rf S2 ⟨hrf, rfl⟩
                    refine m_w hM (fun S hM => ?_)
                    rw [hQ]
                    exact s_ireturn C hA dX8_copy_126 (by rw [sp_copy, if_pos (by omega), ih_n_nI han, ih_n_nI hbn, if_neg (by omega), if_pos h63, if_neg (by omega)]; exact ⟨hrf, hM⟩)
                  · simp only [ih_t0, lg_cmp_lt, lg_cmp_gt, lg_cmp_le, lg_cmp_ge, ih_lel, ih_ltl, ih_tl (n := ii + nn) (by omega), ih_tl (n := ih_mn T an) (by omega)] at h100
                    refine s_iload C 4 dX8_copy_103 rfl ?_
                    refine s_i2lN C dX8_copy_105 (by omega) ?_
                    refine s_iload C 5 dX8_copy_106 rfl ?_
                    refine s_i2lN C dX8_copy_108 (by omega) ?_
                    refine s_laddN C dX8_copy_109 ?_
                    refine s_aload_n C 0 dX8_copy_110 rfl ?_
                    refine s_getR C 8 3 (hM.1 _ _ _ rfl) (by decide) rfl (by decide) rfl (fun _ h => List.mem_cons_of_mem _ (List.mem_append_right _ h)) (by decide) rfl (by decide +kernel) dX8_copy_111 ?_
                    refine s_iload_n C 3 dX8_copy_114 rfl ?_
                    refine s_iaload C 8 (bn) rfl rfl (by omega) (by decide) (by decide) rfl dX8_copy_115 ?_
                    refine s_toe (b := T 2 bn) (hM.2 _ _ rfl) ?_
                    refine s_toe (b := nI (ih_mn T bn)) (hI.1 bn (by omega)).2.1 ?_
                    refine s_i2lN C dX8_copy_116 (by omega) ?_
                    refine s_lcmp C dX8_copy_117 ?_
                    refine s_if_le C 127 dX8_copy_118 (by decide) (fun h118 => ?_) (fun h118 => ?_)
                    · simp only [ih_t0, lg_cmp_lt, lg_cmp_gt, lg_cmp_le, lg_cmp_ge, ih_lel, ih_ltl, ih_tl (n := jj + nn) (by omega), ih_tl (n := ih_mn T bn) (by omega)] at h118
                      refine s_iload_n C 2 dX8_copy_127 rfl ?_
                      refine s_iload C 4 dX8_copy_128 rfl ?_
                      refine s_icmp_ltN 137 C dX8_copy_130 (by decide) (by omega) (by omega) (fun h130 => ?_) (fun h130 => ?_)
                      · refine s_iconst (v := nI 0) C dX8_copy_137 (by decide) ?_
                        refine s_istore (lv' := [(6, .int (nI 0)), (0, .ref (w.2.2 0)), (1, .int (nI an)), (2, .int (nI ii)), (3, .int (nI bn)), (4, .int (nI jj)), (5, .int (nI nn))]) C dX8_copy_138 (by decide) rfl ?_
                        refine s_iconst (v := nI 0) C dX8_copy_140 (by decide) ?_
                        refine s_istore (lv' := [(7, .int (nI 0)), (6, .int (nI 0)), (0, .ref (w.2.2 0)), (1, .int (nI an)), (2, .int (nI ii)), (3, .int (nI bn)), (4, .int (nI jj)), (5, .int (nI nn))]) C dX8_copy_141 (by decide) rfl ?_
                        have hx_143 : ∀ S, ih_RM S (ih_cpy (ih_u2 T 0 1 (nI 0)) ((60 * an + ii) + (nn - (nn))) ((60 * bn + jj) + (nn - (nn))) (nn)) → ih_Mw x w ih_shM A Q 9 0 0 204 [(0, .ref (w.2.2 0)), (1, .int (nI an)), (2, .int (nI ii)), (3, .int (nI bn)), (4, .int (nI jj)), (5, .int (nI nn)), (6, .int (nI 0)), (7, .int (nI nn))] [] S := by
                          intro S hM
                          rw [Nat.sub_self, Nat.add_zero, Nat.add_zero] at hM
                          refine s_iload C 5 dX8_copy_204 rfl ?_
                          rw [hQ]
                          exact s_ireturn C hA dX8_copy_206 (by rw [sp_copy, if_pos (by omega), ih_n_nI han, ih_n_nI hbn, if_neg (by omega), if_pos h63, if_pos (by omega), ih_n_nI hii, ih_n_nI hjj, ih_n_nI hnn]; exact ⟨rfl, hM⟩)
                        have loop_143 : ∀ (fu k : Nat), k + fu = nn → ∀ S, ih_RM S (ih_cpy (ih_u2 T 0 1 (nI 0)) ((60 * an + ii) + (nn - (k))) ((60 * bn + jj) + (nn - (k))) (k)) → ih_Mw x w ih_shM A Q 9 0 0 143 [(0, .ref (w.2.2 0)), (1, .int (nI an)), (2, .int (nI ii)), (3, .int (nI bn)), (4, .int (nI jj)), (5, .int (nI nn)), (6, .int (nI 0)), (7, .int (nI k))] [] S := by
                          intro fu
                          induction fu with
                          | zero =>
                            intro k hke S hM
                            have hk0 : k = nn := by omega
                            refine s_iload C 7 dX8_copy_143 rfl ?_
                            refine s_iload C 5 dX8_copy_145 rfl ?_
                            refine s_icmp_geN 204 C dX8_copy_147 (by decide) (by omega) (by omega) (fun h147 => ?_) (fun h147 => ?_)
                            · subst hk0
                              exact hx_143 _ hM
                            · exfalso; omega
                          | succ fu ih_143 =>
                            intro k hke S hM
                            have hkl : k < nn := by omega
                            refine s_iload C 7 dX8_copy_143 rfl ?_
                            refine s_iload C 5 dX8_copy_145 rfl ?_
                            refine s_icmp_geN 204 C dX8_copy_147 (by decide) (by omega) (by omega) (fun h147 => ?_) (fun h147 => ?_)
                            · exfalso; omega
                            · refine s_iload C 6 dX8_copy_150 rfl ?_
                              refine s_if_eqN 160 C dX8_copy_152 (by decide) (by omega) (fun h152 => ?_) (fun h152 => ?_)
                              · refine s_iload C 5 dX8_copy_160 rfl ?_
                                refine s_iconst (v := nI 1) C dX8_copy_162 (by decide) ?_
                                refine s_isubN C dX8_copy_163 (by omega) ?_
                                refine s_iload C 7 dX8_copy_164 rfl ?_
                                refine s_isubN C dX8_copy_166 (by omega) ?_
                                refine s_istore (lv' := [(8, .int (nI ((nn - 1) - k))), (0, .ref (w.2.2 0)), (1, .int (nI an)), (2, .int (nI ii)), (3, .int (nI bn)), (4, .int (nI jj)), (5, .int (nI nn)), (6, .int (nI 0)), (7, .int (nI k))]) C dX8_copy_167 (by decide) rfl ?_
                                refine s_aload_n C 1 dX8_copy_169 rfl ?_
                                refine s_getR C 8 4 (hM.1 _ _ _ rfl) (by decide) rfl (by decide) rfl (fun _ h => List.mem_cons_of_mem _ (List.mem_append_right _ h)) (by decide) rfl (by decide +kernel) dX8_copy_170 ?_
                                refine s_bipush (v := nI 60) C dX8_copy_173 (by decide) ?_
                                refine s_iload_n C 4 dX8_copy_175 rfl ?_
                                refine s_imulN C dX8_copy_176 ?_
                                refine s_iload C 5 dX8_copy_177 rfl ?_
                                refine s_iaddN C dX8_copy_179 ?_
                                refine s_iload C 0 dX8_copy_180 rfl ?_
                                refine s_iaddN C dX8_copy_182 ?_
                                refine s_aload_n C 1 dX8_copy_183 rfl ?_
                                refine s_getR C 8 4 (hM.1 _ _ _ rfl) (by decide) rfl (by decide) rfl (fun _ h => List.mem_cons_of_mem _ (List.mem_append_right _ h)) (by decide) rfl (by decide +kernel) dX8_copy_184 ?_
                                refine s_bipush (v := nI 60) C dX8_copy_187 (by decide) ?_
                                refine s_iload_n C 2 dX8_copy_189 rfl ?_
                                refine s_imulN C dX8_copy_190 ?_
                                refine s_iload_n C 3 dX8_copy_191 rfl ?_
                                refine s_iaddN C dX8_copy_192 ?_
                                refine s_iload C 0 dX8_copy_193 rfl ?_
                                refine s_iaddN C dX8_copy_195 ?_
                                refine s_iaload C 480 (((60 * an) + ii) + ((nn - 1) - k)) rfl rfl (by omega) (by decide) (by decide) rfl dX8_copy_196 ?_
                                refine s_toe (b := T 3 (((60 * an) + ii) + ((nn - 1) - k))) ((hM.2 _ _ rfl).trans (ih_cpy_out (by omega))) ?_
                                refine s_iastore C 480 (((60 * bn) + jj) + ((nn - 1) - k)) rfl rfl (by omega) (by decide) (by decide) rfl dX8_copy_197 ?_
                                refine m_w hM (fun S hM => ?_)
                                refine s_iinc (u := nI (k + 1)) (lv' := [(7, .int (nI (k + 1))), (8, .int (nI ((nn - 1) - k))), (0, .ref (w.2.2 0)), (1, .int (nI an)), (2, .int (nI ii)), (3, .int (nI bn)), (4, .int (nI jj)), (5, .int (nI nn)), (6, .int (nI 0))]) C 8 dX8_copy_198 rfl (ih_incN (by decide)) (by decide) rfl ?_
                                refine s_goto C 143 dX8_copy_201 (by decide) ?_
                                refine s_perm [2, 3, 4, 5, 6, 7, 8, 0] rfl ?_
                                exact ih_143 (k + 1) (by omega) _ (by rw [← ih_cpy_dn hkl]; exact hM)
                              · exact absurd h152 (by decide)
                        refine s_perm [2, 3, 4, 5, 6, 7, 1, 0] rfl ?_
                        exact loop_143 nn 0 (by omega) _ (by rw [ih_cpy_0]; exact hM)
                      · refine s_iconst (v := nI 1) C dX8_copy_133 (by decide) ?_
                        refine s_goto C 138 dX8_copy_134 (by decide) ?_
                        refine s_istore (lv' := [(6, .int (nI 1)), (0, .ref (w.2.2 0)), (1, .int (nI an)), (2, .int (nI ii)), (3, .int (nI bn)), (4, .int (nI jj)), (5, .int (nI nn))]) C dX8_copy_138 (by decide) rfl ?_
                        refine s_iconst (v := nI 0) C dX8_copy_140 (by decide) ?_
                        refine s_istore (lv' := [(7, .int (nI 0)), (6, .int (nI 1)), (0, .ref (w.2.2 0)), (1, .int (nI an)), (2, .int (nI ii)), (3, .int (nI bn)), (4, .int (nI jj)), (5, .int (nI nn))]) C dX8_copy_141 (by decide) rfl ?_
                        have hx_143 : ∀ S, ih_RM S (ih_cpy (ih_u2 T 0 1 (nI 0)) (60 * an + ii) (60 * bn + jj) (nn)) → ih_Mw x w ih_shM A Q 9 0 0 204 [(0, .ref (w.2.2 0)), (1, .int (nI an)), (2, .int (nI ii)), (3, .int (nI bn)), (4, .int (nI jj)), (5, .int (nI nn)), (6, .int (nI 1)), (7, .int (nI nn))] [] S := by
                          intro S hM
                          refine s_iload C 5 dX8_copy_204 rfl ?_
                          rw [hQ]
                          exact s_ireturn C hA dX8_copy_206 (by rw [sp_copy, if_pos (by omega), ih_n_nI han, ih_n_nI hbn, if_neg (by omega), if_pos h63, if_pos (by omega), ih_n_nI hii, ih_n_nI hjj, ih_n_nI hnn]; exact ⟨rfl, hM⟩)
                        have loop_143 : ∀ (fu k : Nat), k + fu = nn → ∀ S, ih_RM S (ih_cpy (ih_u2 T 0 1 (nI 0)) (60 * an + ii) (60 * bn + jj) (k)) → ih_Mw x w ih_shM A Q 9 0 0 143 [(0, .ref (w.2.2 0)), (1, .int (nI an)), (2, .int (nI ii)), (3, .int (nI bn)), (4, .int (nI jj)), (5, .int (nI nn)), (6, .int (nI 1)), (7, .int (nI k))] [] S := by
                          intro fu
                          induction fu with
                          | zero =>
                            intro k hke S hM
                            have hk0 : k = nn := by omega
                            refine s_iload C 7 dX8_copy_143 rfl ?_
                            refine s_iload C 5 dX8_copy_145 rfl ?_
                            refine s_icmp_geN 204 C dX8_copy_147 (by decide) (by omega) (by omega) (fun h147 => ?_) (fun h147 => ?_)
                            · subst hk0
                              exact hx_143 _ hM
                            · exfalso; omega
                          | succ fu ih_143 =>
                            intro k hke S hM
                            have hkl : k < nn := by omega
                            refine s_iload C 7 dX8_copy_143 rfl ?_
                            refine s_iload C 5 dX8_copy_145 rfl ?_
                            refine s_icmp_geN 204 C dX8_copy_147 (by decide) (by omega) (by omega) (fun h147 => ?_) (fun h147 => ?_)
                            · exfalso; omega
                            · refine s_iload C 6 dX8_copy_150 rfl ?_
                              refine s_if_eqN 160 C dX8_copy_152 (by decide) (by omega) (fun h152 => ?_) (fun h152 => ?_)
                              · exact absurd h152 (by decide)
                              · refine s_iload C 7 dX8_copy_155 rfl ?_
                                refine s_goto C 167 dX8_copy_157 (by decide) ?_
                                refine s_istore (lv' := [(8, .int (nI k)), (0, .ref (w.2.2 0)), (1, .int (nI an)), (2, .int (nI ii)), (3, .int (nI bn)), (4, .int (nI jj)), (5, .int (nI nn)), (6, .int (nI 1)), (7, .int (nI k))]) C dX8_copy_167 (by decide) rfl ?_
                                refine s_aload_n C 1 dX8_copy_169 rfl ?_
                                refine s_getR C 8 4 (hM.1 _ _ _ rfl) (by decide) rfl (by decide) rfl (fun _ h => List.mem_cons_of_mem _ (List.mem_append_right _ h)) (by decide) rfl (by decide +kernel) dX8_copy_170 ?_
                                refine s_bipush (v := nI 60) C dX8_copy_173 (by decide) ?_
                                refine s_iload_n C 4 dX8_copy_175 rfl ?_
                                refine s_imulN C dX8_copy_176 ?_
                                refine s_iload C 5 dX8_copy_177 rfl ?_
                                refine s_iaddN C dX8_copy_179 ?_
                                refine s_iload C 0 dX8_copy_180 rfl ?_
                                refine s_iaddN C dX8_copy_182 ?_
                                refine s_aload_n C 1 dX8_copy_183 rfl ?_
                                refine s_getR C 8 4 (hM.1 _ _ _ rfl) (by decide) rfl (by decide) rfl (fun _ h => List.mem_cons_of_mem _ (List.mem_append_right _ h)) (by decide) rfl (by decide +kernel) dX8_copy_184 ?_
                                refine s_bipush (v := nI 60) C dX8_copy_187 (by decide) ?_
                                refine s_iload_n C 2 dX8_copy_189 rfl ?_
                                refine s_imulN C dX8_copy_190 ?_
                                refine s_iload_n C 3 dX8_copy_191 rfl ?_
                                refine s_iaddN C dX8_copy_192 ?_
                                refine s_iload C 0 dX8_copy_193 rfl ?_
                                refine s_iaddN C dX8_copy_195 ?_
                                refine s_iaload C 480 (((60 * an) + ii) + k) rfl rfl (by omega) (by decide) (by decide) rfl dX8_copy_196 ?_
                                refine s_toe (b := T 3 (((60 * an) + ii) + k)) ((hM.2 _ _ rfl).trans (ih_cpy_out (by omega))) ?_
                                refine s_iastore C 480 (((60 * bn) + jj) + k) rfl rfl (by omega) (by decide) (by decide) rfl dX8_copy_197 ?_
                                refine m_w hM (fun S hM => ?_)
                                refine s_iinc (u := nI (k + 1)) (lv' := [(7, .int (nI (k + 1))), (8, .int (nI k)), (0, .ref (w.2.2 0)), (1, .int (nI an)), (2, .int (nI ii)), (3, .int (nI bn)), (4, .int (nI jj)), (5, .int (nI nn)), (6, .int (nI 1))]) C 8 dX8_copy_198 rfl (ih_incN (by decide)) (by decide) rfl ?_
                                refine s_goto C 143 dX8_copy_201 (by decide) ?_
                                refine s_perm [2, 3, 4, 5, 6, 7, 8, 0] rfl ?_
                                exact ih_143 (k + 1) (by omega) _ (by rw [← ih_cpy_up]; exact hM)
                        refine s_perm [2, 3, 4, 5, 6, 7, 1, 0] rfl ?_
                        exact loop_143 nn 0 (by omega) _ (by rw [ih_cpy_0]; exact hM)
                    · simp only [ih_t0, lg_cmp_lt, lg_cmp_gt, lg_cmp_le, lg_cmp_ge, ih_lel, ih_ltl, ih_tl (n := jj + nn) (by omega), ih_tl (n := ih_mn T bn) (by omega)] at h118
                      refine s_aload_n C 0 dX8_copy_121 rfl ?_
                      refine s_iconst (v := nI 2) C dX8_copy_122 (by decide) ?_
                      refine s_callVi 1 C (c_X8_found _ w _ _) gX8_copy_X8_found rfl (by decide +kernel) (by decide) (by decide) (by decide) rfl (by decide) rfl rfl rfl (Nat.le_of_ble_eq_true rfl) dX8_copy_123 ?_
                      rintro rf S2 ⟨hrf, rfl⟩
                      refine m_w hM (fun S hM => ?_)
                      rw [hQ]
                      exact s_ireturn C hA dX8_copy_126 (by rw [sp_copy, if_pos (by omega), ih_n_nI han, ih_n_nI hbn, if_neg (by omega), if_pos h63, if_neg (by omega)]; exact ⟨hrf, hM⟩)
          · refine s_aload_n C 0 dX8_copy_66 rfl ?_
            refine s_iconst (v := nI 5) C dX8_copy_67 (by decide) ?_
            refine s_callVi 1 C (c_X8_found _ w _ _) gX8_copy_X8_found rfl (by decide +kernel) (by decide) (by decide) (by decide) rfl (by decide) rfl rfl rfl (Nat.le_of_ble_eq_true rfl) dX8_copy_68 ?_
            rintro rf S2 ⟨hrf, rfl⟩
            refine m_w hM (fun S hM => ?_)
            rw [hQ]
            exact s_ireturn C hA dX8_copy_71 (by rw [sp_copy, if_pos (by omega), ih_n_nI han, ih_n_nI hbn, if_neg (by omega), if_neg h63]; exact ⟨hrf, hM⟩)
        · simp only [ih_lei, ih_lti, ih_t0] at h42
          refine s_aload_n C 0 dX8_copy_45 rfl ?_
          refine s_iconst (v := nI 1) C dX8_copy_46 (by decide) ?_
          refine s_callVi 1 C (c_X8_found _ w _ _) gX8_copy_X8_found rfl (by decide +kernel) (by decide) (by decide) (by decide) rfl (by decide) rfl rfl rfl (Nat.le_of_ble_eq_true rfl) dX8_copy_47 ?_
          rintro rf S2 ⟨hrf, rfl⟩
          refine m_w hM (fun S hM => ?_)
          rw [hQ]
          exact s_ireturn C hA dX8_copy_50 (by rw [sp_copy, ih_n_nI han, ih_n_nI hbn, if_pos (by omega), if_pos (by omega)]; exact ⟨hrf, hM⟩)
    · replace h16 := ih_b0 hrs13 h16
      refine s_ldc (v := (-1000001)) C (by decide +kernel) dX8_copy_19 ?_
      rw [hQ]
      exact s_ireturn C hA dX8_copy_21 (by rw [sp_copy, if_neg (by omega)]; exact ⟨rfl, hM⟩)

set_option maxHeartbeats 4000000 in
set_option maxRecDepth 100000 in
theorem c_X8_exchange (l : Launch) (w : ih_Wd) (S : ih_Sg) {T : ih_TT} (hM : ih_RM S T) (a b : Nat) (ha : a < 9) (hb : b < 9) : ih_Cv l yX8_exchange wsX8_exchange 0 w ih_shM [.ref (w.2.2 0), .int (nI a), .int (nI b)] S (fun S' => ih_RM S' (ih_xc T a b)) := by
  refine ih_bodyv (ret := none) rfl rfl (Nat.le_of_ble_eq_true rfl) ?_
  intro x A hA C
  have C : ih_Ok x w A cX8_exchange 4 RX8 wsX8_exchange (ih_rm 0) (none) := C
  show ih_Mw x w ih_shM A (ih_Qv x w ih_shM A _) 4 0 0 0 [(0, .ref (w.2.2 0)), (1, .int (nI a)), (2, .int (nI b))] [] S
  refine s_aload_n C 0 dX8_exchange_0 rfl ?_
  refine s_getR C 8 8 (hM.1 _ _ _ rfl) (by decide) rfl (by decide) rfl (fun _ h => List.mem_cons_of_mem _ (List.mem_append_right _ h)) (by decide) rfl (by decide +kernel) dX8_exchange_1 ?_
  refine s_iload_n C 1 dX8_exchange_4 rfl ?_
  refine s_iaload C 9 (a) rfl rfl (by omega) (by decide) (by decide) rfl dX8_exchange_5 ?_
  refine s_toe (b := T 5 a) (hM.2 _ _ rfl) ?_
  refine s_topi (fun x3_1 ex3_1 => ?_)
  refine s_istore_n (lv' := [(3, .int x3_1), (0, .ref (w.2.2 0)), (1, .int (nI a)), (2, .int (nI b))]) C dX8_exchange_6 rfl (by decide) rfl ?_
  refine s_aload_n C 1 dX8_exchange_7 rfl ?_
  refine s_getR C 8 8 (hM.1 _ _ _ rfl) (by decide) rfl (by decide) rfl (fun _ h => List.mem_cons_of_mem _ (List.mem_append_right _ h)) (by decide) rfl (by decide +kernel) dX8_exchange_8 ?_
  refine s_iload_n C 2 dX8_exchange_11 rfl ?_
  refine s_aload_n C 1 dX8_exchange_12 rfl ?_
  refine s_getR C 8 8 (hM.1 _ _ _ rfl) (by decide) rfl (by decide) rfl (fun _ h => List.mem_cons_of_mem _ (List.mem_append_right _ h)) (by decide) rfl (by decide +kernel) dX8_exchange_13 ?_
  refine s_iload_n C 3 dX8_exchange_16 rfl ?_
  refine s_iaload C 9 (b) rfl rfl (by omega) (by decide) (by decide) rfl dX8_exchange_17 ?_
  refine s_toe (b := T 5 b) (hM.2 _ _ rfl) ?_
  refine s_iastore C 9 (a) rfl rfl (by omega) (by decide) (by decide) rfl dX8_exchange_18 ?_
  refine m_w hM (fun S hM => ?_)
  refine s_aload_n C 1 dX8_exchange_19 rfl ?_
  refine s_getR C 8 8 (hM.1 _ _ _ rfl) (by decide) rfl (by decide) rfl (fun _ h => List.mem_cons_of_mem _ (List.mem_append_right _ h)) (by decide) rfl (by decide +kernel) dX8_exchange_20 ?_
  refine s_iload_n C 3 dX8_exchange_23 rfl ?_
  refine s_iload_n C 0 dX8_exchange_24 rfl ?_
  refine s_iastore C 9 (b) rfl rfl (by omega) (by decide) (by decide) rfl dX8_exchange_25 ?_
  refine m_w hM (fun S hM => ?_)
  exact s_vreturn C hA dX8_exchange_26 (by rw [ex3_1] at hM; exact hM)

theorem ih_nw {w : Int32} (hw : w.toInt < 0 ∨ 6 < w.toInt) {n : Nat} (hn : n ≤ 6) : ¬ w = nI n := by
  intro e
  rw [e, ih_t (by omega)] at hw
  omega
set_option maxHeartbeats 4000000 in
set_option maxRecDepth 100000 in
theorem c_X8_count_0 (l : Launch) (w : ih_Wd) (S : ih_Sg) (T : ih_TT) (hM : ih_RM S T) (hI : ih_Inv T) : ih_Ci l yX8_count wsX8_count 1 w ih_shM [.ref (w.2.2 0), .int (nI 0)] S (fun r S' => r = sp_count T (nI 0) ∧ ih_RM S' T) := by
  refine ih_bodyi (ret := some .int) rfl rfl (Nat.le_of_ble_eq_true rfl) ?_
  intro x A hA C
  have C : ih_Ok x w A cX8_count 4 RX8 wsX8_count (ih_rm 1) (some .int) := C
  show ih_Mw x w ih_shM A (ih_Qi x w ih_shM A _) 4 0 0 0 [(0, .ref (w.2.2 0)), (1, .int (nI 0))] [] S
  obtain ⟨Q, hQ⟩ : ∃ Q, Q = ih_Qi x w ih_shM A (fun r S' => r = sp_count T (nI 0) ∧ ih_RM S' T) := ⟨_, rfl⟩
  rw [show ih_Qi x w ih_shM A _ = Q from hQ.symm]
  have hct : ih_ct T ≤ 12 := hI.2.1.2.1
  refine s_aload_n C 0 dX8_count_0 rfl ?_
  refine s_iconst (v := nI 0) C dX8_count_1 (by decide) ?_
  refine s_putI (ty := .int) C 8 0 tyX8 tyX8_ok nmX8 (by decide) rfl (by decide) rfl (fun _ h => List.mem_cons_of_mem _ (List.mem_append_right _ h)) (by decide) rfl (by decide +kernel) rfl (by decide +kernel) rfl rfl dX8_count_2 ?_
  refine m_hide hM rfl (fun S hM => ?_)
  refine s_iconst (v := nI 0) C dX8_count_5 (by decide) ?_
  refine s_istore_n (lv' := [(2, .int (nI 0)), (0, .ref (w.2.2 0)), (1, .int (nI 0))]) C dX8_count_6 rfl (by decide) rfl ?_
  refine s_iload_n C 2 dX8_count_7 rfl ?_
  refine s_tableIn (off := 44) C 52 dX8_count_8 (by decide) (by decide) (by decide) (by decide) ?_
  refine s_iconst (v := nI 0) C dX8_count_52 (by decide) ?_
  refine s_istore_n (lv' := [(3, .int (nI 0)), (2, .int (nI 0)), (0, .ref (w.2.2 0)), (1, .int (nI 0))]) C dX8_count_53 rfl (by decide) rfl ?_
  have hx_54 : ∀ S, ih_RM S T → ih_Mw x w ih_shM A Q 4 0 0 83 [(0, .ref (w.2.2 0)), (1, .int (nI 0)), (2, .int (nI (ih_fc (fun s => decide (0 ≤ (T 1 s).toInt)) (8)))), (3, .int (nI 8))] [] S := by
    intro S hM
    have hfb := ih_fc_le (fun s => decide (0 ≤ (T 1 s).toInt)) 8
    refine s_iload_n C 2 dX8_count_83 rfl ?_
    rw [hQ]
    exact s_ireturn C hA dX8_count_84 (by rw [sp_count, if_pos (by decide)]; exact ⟨rfl, hM⟩)
  have loop_54 : ∀ (fu s : Nat), s + fu = 8 → ∀ S, ih_RM S T → ih_Mw x w ih_shM A Q 4 0 0 54 [(0, .ref (w.2.2 0)), (1, .int (nI 0)), (2, .int (nI (ih_fc (fun s => decide (0 ≤ (T 1 s).toInt)) (s)))), (3, .int (nI s))] [] S := by
    intro fu
    induction fu with
    | zero =>
      intro s hse S hM
      have hs0 : s = 8 := by omega
      refine s_iload_n C 3 dX8_count_54 rfl ?_
      refine s_bipush (v := nI 8) C dX8_count_55 (by decide) ?_
      refine s_icmp_geN 83 C dX8_count_57 (by decide) (by omega) (by omega) (fun h57 => ?_) (fun h57 => ?_)
      · subst hs0
        exact hx_54 _ hM
      · exfalso; omega
    | succ fu ih_54 =>
      intro s hse S hM
      have hsl : s < 8 := by omega
      have hfb := ih_fc_le (fun s => decide (0 ≤ (T 1 s).toInt)) s
      refine s_iload_n C 3 dX8_count_54 rfl ?_
      refine s_bipush (v := nI 8) C dX8_count_55 (by decide) ?_
      refine s_icmp_geN 83 C dX8_count_57 (by decide) (by omega) (by omega) (fun h57 => ?_) (fun h57 => ?_)
      · exfalso; omega
      · refine s_iload_n C 2 dX8_count_60 rfl ?_
        refine s_aload_n C 0 dX8_count_61 rfl ?_
        refine s_getR C 8 2 (hM.1 _ _ _ rfl) (by decide) rfl (by decide) rfl (fun _ h => List.mem_cons_of_mem _ (List.mem_append_right _ h)) (by decide) rfl (by decide +kernel) dX8_count_62 ?_
        refine s_iload_n C 3 dX8_count_65 rfl ?_
        refine s_iaload C 8 (s) rfl rfl (by omega) (by decide) (by decide) rfl dX8_count_66 ?_
        refine s_toe (b := T 1 s) (hM.2 _ _ rfl) ?_
        refine s_if_lt C 74 dX8_count_67 (by decide) (fun h67 => ?_) (fun h67 => ?_)
        · simp only [ih_lei, ih_lti, ih_t0] at h67
          refine s_iconst (v := nI 0) C dX8_count_74 (by decide) ?_
          refine s_iaddN C dX8_count_75 ?_
          refine s_toe (b := nI (ih_fc (fun s => decide (0 ≤ (T 1 s).toInt)) (s + 1))) (congrArg nI (by rw [ih_fc, if_neg (by rw [decide_eq_true_eq]; omega)])) ?_
          refine s_istore_n (lv' := [(2, .int (nI (ih_fc (fun s => decide (0 ≤ (T 1 s).toInt)) (s + 1)))), (0, .ref (w.2.2 0)), (1, .int (nI 0)), (3, .int (nI s))]) C dX8_count_76 rfl (by decide) rfl ?_
          refine s_iinc (u := nI (s + 1)) (lv' := [(3, .int (nI (s + 1))), (2, .int (nI (ih_fc (fun s => decide (0 ≤ (T 1 s).toInt)) (s + 1)))), (0, .ref (w.2.2 0)), (1, .int (nI 0))]) C 3 dX8_count_77 rfl (ih_incN (by decide)) (by decide) rfl ?_
          refine s_goto C 54 dX8_count_80 (by decide) ?_
          refine s_perm [2, 3, 1, 0] rfl ?_
          exact ih_54 (s + 1) (by omega) _ hM
        · simp only [ih_lei, ih_lti, ih_t0] at h67
          refine s_iconst (v := nI 1) C dX8_count_70 (by decide) ?_
          refine s_goto C 75 dX8_count_71 (by decide) ?_
          refine s_iaddN C dX8_count_75 ?_
          refine s_toe (b := nI (ih_fc (fun s => decide (0 ≤ (T 1 s).toInt)) (s + 1))) (congrArg nI (by rw [ih_fc, if_pos (by rw [decide_eq_true_eq]; omega)])) ?_
          refine s_istore_n (lv' := [(2, .int (nI (ih_fc (fun s => decide (0 ≤ (T 1 s).toInt)) (s + 1)))), (0, .ref (w.2.2 0)), (1, .int (nI 0)), (3, .int (nI s))]) C dX8_count_76 rfl (by decide) rfl ?_
          refine s_iinc (u := nI (s + 1)) (lv' := [(3, .int (nI (s + 1))), (2, .int (nI (ih_fc (fun s => decide (0 ≤ (T 1 s).toInt)) (s + 1)))), (0, .ref (w.2.2 0)), (1, .int (nI 0))]) C 3 dX8_count_77 rfl (ih_incN (by decide)) (by decide) rfl ?_
          refine s_goto C 54 dX8_count_80 (by decide) ?_
          refine s_perm [2, 3, 1, 0] rfl ?_
          exact ih_54 (s + 1) (by omega) _ hM
  refine s_perm [2, 3, 1, 0] rfl ?_
  exact loop_54 (8) 0 (by omega) _ hM

set_option maxHeartbeats 4000000 in
set_option maxRecDepth 100000 in
theorem c_X8_count_1 (l : Launch) (w : ih_Wd) (S : ih_Sg) (T : ih_TT) (hM : ih_RM S T) (hI : ih_Inv T) : ih_Ci l yX8_count wsX8_count 1 w ih_shM [.ref (w.2.2 0), .int (nI 1)] S (fun r S' => r = sp_count T (nI 1) ∧ ih_RM S' T) := by
  refine ih_bodyi (ret := some .int) rfl rfl (Nat.le_of_ble_eq_true rfl) ?_
  intro x A hA C
  have C : ih_Ok x w A cX8_count 4 RX8 wsX8_count (ih_rm 1) (some .int) := C
  show ih_Mw x w ih_shM A (ih_Qi x w ih_shM A _) 4 0 0 0 [(0, .ref (w.2.2 0)), (1, .int (nI 1))] [] S
  obtain ⟨Q, hQ⟩ : ∃ Q, Q = ih_Qi x w ih_shM A (fun r S' => r = sp_count T (nI 1) ∧ ih_RM S' T) := ⟨_, rfl⟩
  rw [show ih_Qi x w ih_shM A _ = Q from hQ.symm]
  have hct : ih_ct T ≤ 12 := hI.2.1.2.1
  refine s_aload_n C 0 dX8_count_0 rfl ?_
  refine s_iconst (v := nI 0) C dX8_count_1 (by decide) ?_
  refine s_putI (ty := .int) C 8 0 tyX8 tyX8_ok nmX8 (by decide) rfl (by decide) rfl (fun _ h => List.mem_cons_of_mem _ (List.mem_append_right _ h)) (by decide) rfl (by decide +kernel) rfl (by decide +kernel) rfl rfl dX8_count_2 ?_
  refine m_hide hM rfl (fun S hM => ?_)
  refine s_iconst (v := nI 0) C dX8_count_5 (by decide) ?_
  refine s_istore_n (lv' := [(2, .int (nI 0)), (0, .ref (w.2.2 0)), (1, .int (nI 1))]) C dX8_count_6 rfl (by decide) rfl ?_
  refine s_iload_n C 2 dX8_count_7 rfl ?_
  refine s_tableIn (off := 77) C 85 dX8_count_8 (by decide) (by decide) (by decide) (by decide) ?_
  refine s_aload_n C 1 dX8_count_85 rfl ?_
  refine s_getI C 8 5 (by decide) rfl (by decide) rfl (fun _ h => List.mem_cons_of_mem _ (List.mem_append_right _ h)) (by decide) rfl (by decide +kernel) dX8_count_86 ?_
  refine s_toe (b := T 0 5) (hM.2 _ _ rfl) ?_
  rw [hQ]
  exact s_ireturn C hA dX8_count_89 (by rw [sp_count, if_neg (by decide), if_pos (by decide)]; exact ⟨rfl, hM⟩)

set_option maxHeartbeats 4000000 in
set_option maxRecDepth 100000 in
theorem c_X8_count_2 (l : Launch) (w : ih_Wd) (S : ih_Sg) (T : ih_TT) (hM : ih_RM S T) (hI : ih_Inv T) : ih_Ci l yX8_count wsX8_count 1 w ih_shM [.ref (w.2.2 0), .int (nI 2)] S (fun r S' => r = sp_count T (nI 2) ∧ ih_RM S' T) := by
  refine ih_bodyi (ret := some .int) rfl rfl (Nat.le_of_ble_eq_true rfl) ?_
  intro x A hA C
  have C : ih_Ok x w A cX8_count 4 RX8 wsX8_count (ih_rm 1) (some .int) := C
  show ih_Mw x w ih_shM A (ih_Qi x w ih_shM A _) 4 0 0 0 [(0, .ref (w.2.2 0)), (1, .int (nI 2))] [] S
  obtain ⟨Q, hQ⟩ : ∃ Q, Q = ih_Qi x w ih_shM A (fun r S' => r = sp_count T (nI 2) ∧ ih_RM S' T) := ⟨_, rfl⟩
  rw [show ih_Qi x w ih_shM A _ = Q from hQ.symm]
  have hct : ih_ct T ≤ 12 := hI.2.1.2.1
  refine s_aload_n C 0 dX8_count_0 rfl ?_
  refine s_iconst (v := nI 0) C dX8_count_1 (by decide) ?_
  refine s_putI (ty := .int) C 8 0 tyX8 tyX8_ok nmX8 (by decide) rfl (by decide) rfl (fun _ h => List.mem_cons_of_mem _ (List.mem_append_right _ h)) (by decide) rfl (by decide +kernel) rfl (by decide +kernel) rfl rfl dX8_count_2 ?_
  refine m_hide hM rfl (fun S hM => ?_)
  refine s_iconst (v := nI 0) C dX8_count_5 (by decide) ?_
  refine s_istore_n (lv' := [(2, .int (nI 0)), (0, .ref (w.2.2 0)), (1, .int (nI 2))]) C dX8_count_6 rfl (by decide) rfl ?_
  refine s_iload_n C 2 dX8_count_7 rfl ?_
  refine s_tableIn (off := 82) C 90 dX8_count_8 (by decide) (by decide) (by decide) (by decide) ?_
  refine s_iconst (v := nI 0) C dX8_count_90 (by decide) ?_
  refine s_istore_n (lv' := [(3, .int (nI 0)), (2, .int (nI 0)), (0, .ref (w.2.2 0)), (1, .int (nI 2))]) C dX8_count_91 rfl (by decide) rfl ?_
  have hx_92 : ∀ S, ih_RM S T → ih_Mw x w ih_shM A Q 4 0 0 128 [(0, .ref (w.2.2 0)), (1, .int (nI 2)), (2, .int (nI (ih_fc (fun k => ih_isOf (ih_kind T k) 1) (ih_ct T)))), (3, .int (nI (ih_ct T)))] [] S := by
    intro S hM
    refine s_iload_n C 2 dX8_count_128 rfl ?_
    rw [hQ]
    exact s_ireturn C hA dX8_count_129 (by rw [sp_count, if_neg (by decide), if_neg (by decide), if_pos (by decide), ih_n_nI (by decide)]; exact ⟨rfl, hM⟩)
  have loop_92 : ∀ (fu k : Nat), k + fu = ih_ct T → ∀ S, ih_RM S T → ih_Mw x w ih_shM A Q 4 0 0 92 [(0, .ref (w.2.2 0)), (1, .int (nI 2)), (2, .int (nI (ih_fc (fun k => ih_isOf (ih_kind T k) 1) (k)))), (3, .int (nI k))] [] S := by
    intro fu
    induction fu with
    | zero =>
      intro k hke S hM
      have hk0 : k = ih_ct T := by omega
      refine s_iload_n C 3 dX8_count_92 rfl ?_
      refine s_aload_n C 0 dX8_count_93 rfl ?_
      refine s_getI C 8 5 (by decide) rfl (by decide) rfl (fun _ h => List.mem_cons_of_mem _ (List.mem_append_right _ h)) (by decide) rfl (by decide +kernel) dX8_count_94 ?_
      refine s_toe (b := T 0 5) (hM.2 _ _ rfl) ?_
      refine s_toe (b := nI (ih_ct T)) hI.2.1.1 ?_
      refine s_icmp_geN 128 C dX8_count_97 (by decide) (by omega) (by omega) (fun h97 => ?_) (fun h97 => ?_)
      · subst hk0
        exact hx_92 _ hM
      · exfalso; omega
    | succ fu ih_92 =>
      intro k hke S hM
      have hkl : k < ih_ct T := by omega
      refine s_iload_n C 3 dX8_count_92 rfl ?_
      refine s_aload_n C 0 dX8_count_93 rfl ?_
      refine s_getI C 8 5 (by decide) rfl (by decide) rfl (fun _ h => List.mem_cons_of_mem _ (List.mem_append_right _ h)) (by decide) rfl (by decide +kernel) dX8_count_94 ?_
      refine s_toe (b := T 0 5) (hM.2 _ _ rfl) ?_
      refine s_toe (b := nI (ih_ct T)) hI.2.1.1 ?_
      refine s_icmp_geN 128 C dX8_count_97 (by decide) (by omega) (by omega) (fun h97 => ?_) (fun h97 => ?_)
      · exfalso; omega
      · refine s_iload_n C 2 dX8_count_100 rfl ?_
        refine s_aload_n C 0 dX8_count_101 rfl ?_
        refine s_iload_n C 3 dX8_count_102 rfl ?_
        refine s_callVi 1 C (c_X8_kindOf _ w _ _ hM hI k (by omega)) gX8_count_X8_kindOf rfl (by decide +kernel) (by decide) (by decide) (by decide) rfl (by decide) rfl rfl rfl (Nat.le_of_ble_eq_true rfl) dX8_count_103 ?_
        rintro rq S2 ⟨hrq, hSS⟩
        obtain rfl := hSS.symm
        subst hrq
        refine s_iload_n C 1 dX8_count_106 rfl ?_
        refine s_iconst (v := nI 1) C dX8_count_107 (by decide) ?_
        refine s_isubN C dX8_count_108 (by omega) ?_
        refine s_callSi 2 C (c_X8_isOf _ w _ (ih_kind T k) (2 - 1) (ih_kind_lt T k) (by decide)) gX8_count_X8_isOf rfl (by decide +kernel) (by decide) (by decide) rfl rfl (Nat.le_of_ble_eq_true rfl) dX8_count_109 ?_
        rintro ro S2 ⟨hro, hSS⟩
        obtain rfl := hSS.symm
        refine s_if_eq C 119 dX8_count_112 (by decide) (fun h112 => ?_) (fun h112 => ?_)
        · replace h112 := ih_b0 hro h112
          refine s_iconst (v := nI 0) C dX8_count_119 (by decide) ?_
          refine s_iaddN C dX8_count_120 ?_
          refine s_toe (b := nI (ih_fc (fun k => ih_isOf (ih_kind T k) 1) (k + 1))) (congrArg nI (by rw [ih_fc, if_neg h112])) ?_
          refine s_istore_n (lv' := [(2, .int (nI (ih_fc (fun k => ih_isOf (ih_kind T k) 1) (k + 1)))), (0, .ref (w.2.2 0)), (1, .int (nI 2)), (3, .int (nI k))]) C dX8_count_121 rfl (by decide) rfl ?_
          refine s_iinc (u := nI (k + 1)) (lv' := [(3, .int (nI (k + 1))), (2, .int (nI (ih_fc (fun k => ih_isOf (ih_kind T k) 1) (k + 1)))), (0, .ref (w.2.2 0)), (1, .int (nI 2))]) C 3 dX8_count_122 rfl (ih_incN (by decide)) (by decide) rfl ?_
          refine s_goto C 92 dX8_count_125 (by decide) ?_
          refine s_perm [2, 3, 1, 0] rfl ?_
          exact ih_92 (k + 1) (by omega) _ hM
        · replace h112 := ih_b1 hro h112
          refine s_iconst (v := nI 1) C dX8_count_115 (by decide) ?_
          refine s_goto C 120 dX8_count_116 (by decide) ?_
          refine s_iaddN C dX8_count_120 ?_
          refine s_toe (b := nI (ih_fc (fun k => ih_isOf (ih_kind T k) 1) (k + 1))) (congrArg nI (by rw [ih_fc, if_pos h112])) ?_
          refine s_istore_n (lv' := [(2, .int (nI (ih_fc (fun k => ih_isOf (ih_kind T k) 1) (k + 1)))), (0, .ref (w.2.2 0)), (1, .int (nI 2)), (3, .int (nI k))]) C dX8_count_121 rfl (by decide) rfl ?_
          refine s_iinc (u := nI (k + 1)) (lv' := [(3, .int (nI (k + 1))), (2, .int (nI (ih_fc (fun k => ih_isOf (ih_kind T k) 1) (k + 1)))), (0, .ref (w.2.2 0)), (1, .int (nI 2))]) C 3 dX8_count_122 rfl (ih_incN (by decide)) (by decide) rfl ?_
          refine s_goto C 92 dX8_count_125 (by decide) ?_
          refine s_perm [2, 3, 1, 0] rfl ?_
          exact ih_92 (k + 1) (by omega) _ hM
  refine s_perm [2, 3, 1, 0] rfl ?_
  exact loop_92 (ih_ct T) 0 (by omega) _ hM

set_option maxHeartbeats 4000000 in
set_option maxRecDepth 100000 in
theorem c_X8_count_3 (l : Launch) (w : ih_Wd) (S : ih_Sg) (T : ih_TT) (hM : ih_RM S T) (hI : ih_Inv T) : ih_Ci l yX8_count wsX8_count 1 w ih_shM [.ref (w.2.2 0), .int (nI 3)] S (fun r S' => r = sp_count T (nI 3) ∧ ih_RM S' T) := by
  refine ih_bodyi (ret := some .int) rfl rfl (Nat.le_of_ble_eq_true rfl) ?_
  intro x A hA C
  have C : ih_Ok x w A cX8_count 4 RX8 wsX8_count (ih_rm 1) (some .int) := C
  show ih_Mw x w ih_shM A (ih_Qi x w ih_shM A _) 4 0 0 0 [(0, .ref (w.2.2 0)), (1, .int (nI 3))] [] S
  obtain ⟨Q, hQ⟩ : ∃ Q, Q = ih_Qi x w ih_shM A (fun r S' => r = sp_count T (nI 3) ∧ ih_RM S' T) := ⟨_, rfl⟩
  rw [show ih_Qi x w ih_shM A _ = Q from hQ.symm]
  have hct : ih_ct T ≤ 12 := hI.2.1.2.1
  refine s_aload_n C 0 dX8_count_0 rfl ?_
  refine s_iconst (v := nI 0) C dX8_count_1 (by decide) ?_
  refine s_putI (ty := .int) C 8 0 tyX8 tyX8_ok nmX8 (by decide) rfl (by decide) rfl (fun _ h => List.mem_cons_of_mem _ (List.mem_append_right _ h)) (by decide) rfl (by decide +kernel) rfl (by decide +kernel) rfl rfl dX8_count_2 ?_
  refine m_hide hM rfl (fun S hM => ?_)
  refine s_iconst (v := nI 0) C dX8_count_5 (by decide) ?_
  refine s_istore_n (lv' := [(2, .int (nI 0)), (0, .ref (w.2.2 0)), (1, .int (nI 3))]) C dX8_count_6 rfl (by decide) rfl ?_
  refine s_iload_n C 2 dX8_count_7 rfl ?_
  refine s_tableIn (off := 82) C 90 dX8_count_8 (by decide) (by decide) (by decide) (by decide) ?_
  refine s_iconst (v := nI 0) C dX8_count_90 (by decide) ?_
  refine s_istore_n (lv' := [(3, .int (nI 0)), (2, .int (nI 0)), (0, .ref (w.2.2 0)), (1, .int (nI 3))]) C dX8_count_91 rfl (by decide) rfl ?_
  have hx_92 : ∀ S, ih_RM S T → ih_Mw x w ih_shM A Q 4 0 0 128 [(0, .ref (w.2.2 0)), (1, .int (nI 3)), (2, .int (nI (ih_fc (fun k => ih_isOf (ih_kind T k) 2) (ih_ct T)))), (3, .int (nI (ih_ct T)))] [] S := by
    intro S hM
    refine s_iload_n C 2 dX8_count_128 rfl ?_
    rw [hQ]
    exact s_ireturn C hA dX8_count_129 (by rw [sp_count, if_neg (by decide), if_neg (by decide), if_pos (by decide), ih_n_nI (by decide)]; exact ⟨rfl, hM⟩)
  have loop_92 : ∀ (fu k : Nat), k + fu = ih_ct T → ∀ S, ih_RM S T → ih_Mw x w ih_shM A Q 4 0 0 92 [(0, .ref (w.2.2 0)), (1, .int (nI 3)), (2, .int (nI (ih_fc (fun k => ih_isOf (ih_kind T k) 2) (k)))), (3, .int (nI k))] [] S := by
    intro fu
    induction fu with
    | zero =>
      intro k hke S hM
      have hk0 : k = ih_ct T := by omega
      refine s_iload_n C 3 dX8_count_92 rfl ?_
      refine s_aload_n C 0 dX8_count_93 rfl ?_
      refine s_getI C 8 5 (by decide) rfl (by decide) rfl (fun _ h => List.mem_cons_of_mem _ (List.mem_append_right _ h)) (by decide) rfl (by decide +kernel) dX8_count_94 ?_
      refine s_toe (b := T 0 5) (hM.2 _ _ rfl) ?_
      refine s_toe (b := nI (ih_ct T)) hI.2.1.1 ?_
      refine s_icmp_geN 128 C dX8_count_97 (by decide) (by omega) (by omega) (fun h97 => ?_) (fun h97 => ?_)
      · subst hk0
        exact hx_92 _ hM
      · exfalso; omega
    | succ fu ih_92 =>
      intro k hke S hM
      have hkl : k < ih_ct T := by omega
      refine s_iload_n C 3 dX8_count_92 rfl ?_
      refine s_aload_n C 0 dX8_count_93 rfl ?_
      refine s_getI C 8 5 (by decide) rfl (by decide) rfl (fun _ h => List.mem_cons_of_mem _ (List.mem_append_right _ h)) (by decide) rfl (by decide +kernel) dX8_count_94 ?_
      refine s_toe (b := T 0 5) (hM.2 _ _ rfl) ?_
      refine s_toe (b := nI (ih_ct T)) hI.2.1.1 ?_
      refine s_icmp_geN 128 C dX8_count_97 (by decide) (by omega) (by omega) (fun h97 => ?_) (fun h97 => ?_)
      · exfalso; omega
      · refine s_iload_n C 2 dX8_count_100 rfl ?_
        refine s_aload_n C 0 dX8_count_101 rfl ?_
        refine s_iload_n C 3 dX8_count_102 rfl ?_
        refine s_callVi 1 C (c_X8_kindOf _ w _ _ hM hI k (by omega)) gX8_count_X8_kindOf rfl (by decide +kernel) (by decide) (by decide) (by decide) rfl (by decide) rfl rfl rfl (Nat.le_of_ble_eq_true rfl) dX8_count_103 ?_
        rintro rq S2 ⟨hrq, hSS⟩
        obtain rfl := hSS.symm
        subst hrq
        refine s_iload_n C 1 dX8_count_106 rfl ?_
        refine s_iconst (v := nI 1) C dX8_count_107 (by decide) ?_
        refine s_isubN C dX8_count_108 (by omega) ?_
        refine s_callSi 2 C (c_X8_isOf _ w _ (ih_kind T k) (3 - 1) (ih_kind_lt T k) (by decide)) gX8_count_X8_isOf rfl (by decide +kernel) (by decide) (by decide) rfl rfl (Nat.le_of_ble_eq_true rfl) dX8_count_109 ?_
        rintro ro S2 ⟨hro, hSS⟩
        obtain rfl := hSS.symm
        refine s_if_eq C 119 dX8_count_112 (by decide) (fun h112 => ?_) (fun h112 => ?_)
        · replace h112 := ih_b0 hro h112
          refine s_iconst (v := nI 0) C dX8_count_119 (by decide) ?_
          refine s_iaddN C dX8_count_120 ?_
          refine s_toe (b := nI (ih_fc (fun k => ih_isOf (ih_kind T k) 2) (k + 1))) (congrArg nI (by rw [ih_fc, if_neg h112])) ?_
          refine s_istore_n (lv' := [(2, .int (nI (ih_fc (fun k => ih_isOf (ih_kind T k) 2) (k + 1)))), (0, .ref (w.2.2 0)), (1, .int (nI 3)), (3, .int (nI k))]) C dX8_count_121 rfl (by decide) rfl ?_
          refine s_iinc (u := nI (k + 1)) (lv' := [(3, .int (nI (k + 1))), (2, .int (nI (ih_fc (fun k => ih_isOf (ih_kind T k) 2) (k + 1)))), (0, .ref (w.2.2 0)), (1, .int (nI 3))]) C 3 dX8_count_122 rfl (ih_incN (by decide)) (by decide) rfl ?_
          refine s_goto C 92 dX8_count_125 (by decide) ?_
          refine s_perm [2, 3, 1, 0] rfl ?_
          exact ih_92 (k + 1) (by omega) _ hM
        · replace h112 := ih_b1 hro h112
          refine s_iconst (v := nI 1) C dX8_count_115 (by decide) ?_
          refine s_goto C 120 dX8_count_116 (by decide) ?_
          refine s_iaddN C dX8_count_120 ?_
          refine s_toe (b := nI (ih_fc (fun k => ih_isOf (ih_kind T k) 2) (k + 1))) (congrArg nI (by rw [ih_fc, if_pos h112])) ?_
          refine s_istore_n (lv' := [(2, .int (nI (ih_fc (fun k => ih_isOf (ih_kind T k) 2) (k + 1)))), (0, .ref (w.2.2 0)), (1, .int (nI 3)), (3, .int (nI k))]) C dX8_count_121 rfl (by decide) rfl ?_
          refine s_iinc (u := nI (k + 1)) (lv' := [(3, .int (nI (k + 1))), (2, .int (nI (ih_fc (fun k => ih_isOf (ih_kind T k) 2) (k + 1)))), (0, .ref (w.2.2 0)), (1, .int (nI 3))]) C 3 dX8_count_122 rfl (ih_incN (by decide)) (by decide) rfl ?_
          refine s_goto C 92 dX8_count_125 (by decide) ?_
          refine s_perm [2, 3, 1, 0] rfl ?_
          exact ih_92 (k + 1) (by omega) _ hM
  refine s_perm [2, 3, 1, 0] rfl ?_
  exact loop_92 (ih_ct T) 0 (by omega) _ hM

set_option maxHeartbeats 4000000 in
set_option maxRecDepth 100000 in
theorem c_X8_count_4 (l : Launch) (w : ih_Wd) (S : ih_Sg) (T : ih_TT) (hM : ih_RM S T) (hI : ih_Inv T) : ih_Ci l yX8_count wsX8_count 1 w ih_shM [.ref (w.2.2 0), .int (nI 4)] S (fun r S' => r = sp_count T (nI 4) ∧ ih_RM S' T) := by
  refine ih_bodyi (ret := some .int) rfl rfl (Nat.le_of_ble_eq_true rfl) ?_
  intro x A hA C
  have C : ih_Ok x w A cX8_count 4 RX8 wsX8_count (ih_rm 1) (some .int) := C
  show ih_Mw x w ih_shM A (ih_Qi x w ih_shM A _) 4 0 0 0 [(0, .ref (w.2.2 0)), (1, .int (nI 4))] [] S
  obtain ⟨Q, hQ⟩ : ∃ Q, Q = ih_Qi x w ih_shM A (fun r S' => r = sp_count T (nI 4) ∧ ih_RM S' T) := ⟨_, rfl⟩
  rw [show ih_Qi x w ih_shM A _ = Q from hQ.symm]
  have hct : ih_ct T ≤ 12 := hI.2.1.2.1
  refine s_aload_n C 0 dX8_count_0 rfl ?_
  refine s_iconst (v := nI 0) C dX8_count_1 (by decide) ?_
  refine s_putI (ty := .int) C 8 0 tyX8 tyX8_ok nmX8 (by decide) rfl (by decide) rfl (fun _ h => List.mem_cons_of_mem _ (List.mem_append_right _ h)) (by decide) rfl (by decide +kernel) rfl (by decide +kernel) rfl rfl dX8_count_2 ?_
  refine m_hide hM rfl (fun S hM => ?_)
  refine s_iconst (v := nI 0) C dX8_count_5 (by decide) ?_
  refine s_istore_n (lv' := [(2, .int (nI 0)), (0, .ref (w.2.2 0)), (1, .int (nI 4))]) C dX8_count_6 rfl (by decide) rfl ?_
  refine s_iload_n C 2 dX8_count_7 rfl ?_
  refine s_tableIn (off := 82) C 90 dX8_count_8 (by decide) (by decide) (by decide) (by decide) ?_
  refine s_iconst (v := nI 0) C dX8_count_90 (by decide) ?_
  refine s_istore_n (lv' := [(3, .int (nI 0)), (2, .int (nI 0)), (0, .ref (w.2.2 0)), (1, .int (nI 4))]) C dX8_count_91 rfl (by decide) rfl ?_
  have hx_92 : ∀ S, ih_RM S T → ih_Mw x w ih_shM A Q 4 0 0 128 [(0, .ref (w.2.2 0)), (1, .int (nI 4)), (2, .int (nI (ih_fc (fun k => ih_isOf (ih_kind T k) 3) (ih_ct T)))), (3, .int (nI (ih_ct T)))] [] S := by
    intro S hM
    refine s_iload_n C 2 dX8_count_128 rfl ?_
    rw [hQ]
    exact s_ireturn C hA dX8_count_129 (by rw [sp_count, if_neg (by decide), if_neg (by decide), if_pos (by decide), ih_n_nI (by decide)]; exact ⟨rfl, hM⟩)
  have loop_92 : ∀ (fu k : Nat), k + fu = ih_ct T → ∀ S, ih_RM S T → ih_Mw x w ih_shM A Q 4 0 0 92 [(0, .ref (w.2.2 0)), (1, .int (nI 4)), (2, .int (nI (ih_fc (fun k => ih_isOf (ih_kind T k) 3) (k)))), (3, .int (nI k))] [] S := by
    intro fu
    induction fu with
    | zero =>
      intro k hke S hM
      have hk0 : k = ih_ct T := by omega
      refine s_iload_n C 3 dX8_count_92 rfl ?_
      refine s_aload_n C 0 dX8_count_93 rfl ?_
      refine s_getI C 8 5 (by decide) rfl (by decide) rfl (fun _ h => List.mem_cons_of_mem _ (List.mem_append_right _ h)) (by decide) rfl (by decide +kernel) dX8_count_94 ?_
      refine s_toe (b := T 0 5) (hM.2 _ _ rfl) ?_
      refine s_toe (b := nI (ih_ct T)) hI.2.1.1 ?_
      refine s_icmp_geN 128 C dX8_count_97 (by decide) (by omega) (by omega) (fun h97 => ?_) (fun h97 => ?_)
      · subst hk0
        exact hx_92 _ hM
      · exfalso; omega
    | succ fu ih_92 =>
      intro k hke S hM
      have hkl : k < ih_ct T := by omega
      refine s_iload_n C 3 dX8_count_92 rfl ?_
      refine s_aload_n C 0 dX8_count_93 rfl ?_
      refine s_getI C 8 5 (by decide) rfl (by decide) rfl (fun _ h => List.mem_cons_of_mem _ (List.mem_append_right _ h)) (by decide) rfl (by decide +kernel) dX8_count_94 ?_
      refine s_toe (b := T 0 5) (hM.2 _ _ rfl) ?_
      refine s_toe (b := nI (ih_ct T)) hI.2.1.1 ?_
      refine s_icmp_geN 128 C dX8_count_97 (by decide) (by omega) (by omega) (fun h97 => ?_) (fun h97 => ?_)
      · exfalso; omega
      · refine s_iload_n C 2 dX8_count_100 rfl ?_
        refine s_aload_n C 0 dX8_count_101 rfl ?_
        refine s_iload_n C 3 dX8_count_102 rfl ?_
        refine s_callVi 1 C (c_X8_kindOf _ w _ _ hM hI k (by omega)) gX8_count_X8_kindOf rfl (by decide +kernel) (by decide) (by decide) (by decide) rfl (by decide) rfl rfl rfl (Nat.le_of_ble_eq_true rfl) dX8_count_103 ?_
        rintro rq S2 ⟨hrq, hSS⟩
        obtain rfl := hSS.symm
        subst hrq
        refine s_iload_n C 1 dX8_count_106 rfl ?_
        refine s_iconst (v := nI 1) C dX8_count_107 (by decide) ?_
        refine s_isubN C dX8_count_108 (by omega) ?_
        refine s_callSi 2 C (c_X8_isOf _ w _ (ih_kind T k) (4 - 1) (ih_kind_lt T k) (by decide)) gX8_count_X8_isOf rfl (by decide +kernel) (by decide) (by decide) rfl rfl (Nat.le_of_ble_eq_true rfl) dX8_count_109 ?_
        rintro ro S2 ⟨hro, hSS⟩
        obtain rfl := hSS.symm
        refine s_if_eq C 119 dX8_count_112 (by decide) (fun h112 => ?_) (fun h112 => ?_)
        · replace h112 := ih_b0 hro h112
          refine s_iconst (v := nI 0) C dX8_count_119 (by decide) ?_
          refine s_iaddN C dX8_count_120 ?_
          refine s_toe (b := nI (ih_fc (fun k => ih_isOf (ih_kind T k) 3) (k + 1))) (congrArg nI (by rw [ih_fc, if_neg h112])) ?_
          refine s_istore_n (lv' := [(2, .int (nI (ih_fc (fun k => ih_isOf (ih_kind T k) 3) (k + 1)))), (0, .ref (w.2.2 0)), (1, .int (nI 4)), (3, .int (nI k))]) C dX8_count_121 rfl (by decide) rfl ?_
          refine s_iinc (u := nI (k + 1)) (lv' := [(3, .int (nI (k + 1))), (2, .int (nI (ih_fc (fun k => ih_isOf (ih_kind T k) 3) (k + 1)))), (0, .ref (w.2.2 0)), (1, .int (nI 4))]) C 3 dX8_count_122 rfl (ih_incN (by decide)) (by decide) rfl ?_
          refine s_goto C 92 dX8_count_125 (by decide) ?_
          refine s_perm [2, 3, 1, 0] rfl ?_
          exact ih_92 (k + 1) (by omega) _ hM
        · replace h112 := ih_b1 hro h112
          refine s_iconst (v := nI 1) C dX8_count_115 (by decide) ?_
          refine s_goto C 120 dX8_count_116 (by decide) ?_
          refine s_iaddN C dX8_count_120 ?_
          refine s_toe (b := nI (ih_fc (fun k => ih_isOf (ih_kind T k) 3) (k + 1))) (congrArg nI (by rw [ih_fc, if_pos h112])) ?_
          refine s_istore_n (lv' := [(2, .int (nI (ih_fc (fun k => ih_isOf (ih_kind T k) 3) (k + 1)))), (0, .ref (w.2.2 0)), (1, .int (nI 4)), (3, .int (nI k))]) C dX8_count_121 rfl (by decide) rfl ?_
          refine s_iinc (u := nI (k + 1)) (lv' := [(3, .int (nI (k + 1))), (2, .int (nI (ih_fc (fun k => ih_isOf (ih_kind T k) 3) (k + 1)))), (0, .ref (w.2.2 0)), (1, .int (nI 4))]) C 3 dX8_count_122 rfl (ih_incN (by decide)) (by decide) rfl ?_
          refine s_goto C 92 dX8_count_125 (by decide) ?_
          refine s_perm [2, 3, 1, 0] rfl ?_
          exact ih_92 (k + 1) (by omega) _ hM
  refine s_perm [2, 3, 1, 0] rfl ?_
  exact loop_92 (ih_ct T) 0 (by omega) _ hM

set_option maxHeartbeats 4000000 in
set_option maxRecDepth 100000 in
theorem c_X8_count_5 (l : Launch) (w : ih_Wd) (S : ih_Sg) (T : ih_TT) (hM : ih_RM S T) (hI : ih_Inv T) : ih_Ci l yX8_count wsX8_count 1 w ih_shM [.ref (w.2.2 0), .int (nI 5)] S (fun r S' => r = sp_count T (nI 5) ∧ ih_RM S' T) := by
  refine ih_bodyi (ret := some .int) rfl rfl (Nat.le_of_ble_eq_true rfl) ?_
  intro x A hA C
  have C : ih_Ok x w A cX8_count 4 RX8 wsX8_count (ih_rm 1) (some .int) := C
  show ih_Mw x w ih_shM A (ih_Qi x w ih_shM A _) 4 0 0 0 [(0, .ref (w.2.2 0)), (1, .int (nI 5))] [] S
  obtain ⟨Q, hQ⟩ : ∃ Q, Q = ih_Qi x w ih_shM A (fun r S' => r = sp_count T (nI 5) ∧ ih_RM S' T) := ⟨_, rfl⟩
  rw [show ih_Qi x w ih_shM A _ = Q from hQ.symm]
  have hct : ih_ct T ≤ 12 := hI.2.1.2.1
  refine s_aload_n C 0 dX8_count_0 rfl ?_
  refine s_iconst (v := nI 0) C dX8_count_1 (by decide) ?_
  refine s_putI (ty := .int) C 8 0 tyX8 tyX8_ok nmX8 (by decide) rfl (by decide) rfl (fun _ h => List.mem_cons_of_mem _ (List.mem_append_right _ h)) (by decide) rfl (by decide +kernel) rfl (by decide +kernel) rfl rfl dX8_count_2 ?_
  refine m_hide hM rfl (fun S hM => ?_)
  refine s_iconst (v := nI 0) C dX8_count_5 (by decide) ?_
  refine s_istore_n (lv' := [(2, .int (nI 0)), (0, .ref (w.2.2 0)), (1, .int (nI 5))]) C dX8_count_6 rfl (by decide) rfl ?_
  refine s_iload_n C 2 dX8_count_7 rfl ?_
  refine s_tableIn (off := 122) C 130 dX8_count_8 (by decide) (by decide) (by decide) (by decide) ?_
  refine s_aload_n C 1 dX8_count_130 rfl ?_
  refine s_getI C 8 7 (by decide) rfl (by decide) rfl (fun _ h => List.mem_cons_of_mem _ (List.mem_append_right _ h)) (by decide) rfl (by decide +kernel) dX8_count_131 ?_
  refine s_toe (b := T 0 7) (hM.2 _ _ rfl) ?_
  rw [hQ]
  exact s_ireturn C hA dX8_count_134 (by rw [sp_count, if_neg (by decide), if_neg (by decide), if_neg (by decide), if_pos (by decide)]; exact ⟨rfl, hM⟩)

set_option maxHeartbeats 4000000 in
set_option maxRecDepth 100000 in
theorem c_X8_count_6 (l : Launch) (w : ih_Wd) (S : ih_Sg) (T : ih_TT) (hM : ih_RM S T) (hI : ih_Inv T) : ih_Ci l yX8_count wsX8_count 1 w ih_shM [.ref (w.2.2 0), .int (nI 6)] S (fun r S' => r = sp_count T (nI 6) ∧ ih_RM S' T) := by
  refine ih_bodyi (ret := some .int) rfl rfl (Nat.le_of_ble_eq_true rfl) ?_
  intro x A hA C
  have C : ih_Ok x w A cX8_count 4 RX8 wsX8_count (ih_rm 1) (some .int) := C
  show ih_Mw x w ih_shM A (ih_Qi x w ih_shM A _) 4 0 0 0 [(0, .ref (w.2.2 0)), (1, .int (nI 6))] [] S
  obtain ⟨Q, hQ⟩ : ∃ Q, Q = ih_Qi x w ih_shM A (fun r S' => r = sp_count T (nI 6) ∧ ih_RM S' T) := ⟨_, rfl⟩
  rw [show ih_Qi x w ih_shM A _ = Q from hQ.symm]
  have hct : ih_ct T ≤ 12 := hI.2.1.2.1
  refine s_aload_n C 0 dX8_count_0 rfl ?_
  refine s_iconst (v := nI 0) C dX8_count_1 (by decide) ?_
  refine s_putI (ty := .int) C 8 0 tyX8 tyX8_ok nmX8 (by decide) rfl (by decide) rfl (fun _ h => List.mem_cons_of_mem _ (List.mem_append_right _ h)) (by decide) rfl (by decide +kernel) rfl (by decide +kernel) rfl rfl dX8_count_2 ?_
  refine m_hide hM rfl (fun S hM => ?_)
  refine s_iconst (v := nI 0) C dX8_count_5 (by decide) ?_
  refine s_istore_n (lv' := [(2, .int (nI 0)), (0, .ref (w.2.2 0)), (1, .int (nI 6))]) C dX8_count_6 rfl (by decide) rfl ?_
  refine s_iload_n C 2 dX8_count_7 rfl ?_
  refine s_tableIn (off := 127) C 135 dX8_count_8 (by decide) (by decide) (by decide) (by decide) ?_
  refine s_aload_n C 1 dX8_count_135 rfl ?_
  refine s_getR C 8 12 (hM.1 _ _ _ rfl) (by decide) rfl (by decide) rfl (fun _ h => List.mem_cons_of_mem _ (List.mem_append_right _ h)) (by decide) rfl (by decide +kernel) dX8_count_136 ?_
  refine s_iconst (v := nI 0) C dX8_count_139 (by decide) ?_
  refine s_iaload C 2 (0) rfl rfl (by decide) (by decide) (by decide) rfl dX8_count_140 ?_
  refine s_toe (b := T 9 0) (hM.2 _ _ rfl) ?_
  refine s_ldc (v := (-1000000)) C (by decide +kernel) dX8_count_141 ?_
  refine s_icmp_ne C 150 dX8_count_143 (by decide) (fun h143 => ?_) (fun h143 => ?_)
  · refine s_iconst (v := nI 1) C dX8_count_150 (by decide) ?_
    refine s_aload_n C 1 dX8_count_151 rfl ?_
    refine s_getR C 8 12 (hM.1 _ _ _ rfl) (by decide) rfl (by decide) rfl (fun _ h => List.mem_cons_of_mem _ (List.mem_append_right _ h)) (by decide) rfl (by decide +kernel) dX8_count_152 ?_
    refine s_iconst (v := nI 1) C dX8_count_155 (by decide) ?_
    refine s_iaload C 2 (1) rfl rfl (by decide) (by decide) (by decide) rfl dX8_count_156 ?_
    refine s_toe (b := T 9 1) (hM.2 _ _ rfl) ?_
    refine s_ldc (v := (-1000000)) C (by decide +kernel) dX8_count_157 ?_
    refine s_icmp_ne C 166 dX8_count_159 (by decide) (fun h159 => ?_) (fun h159 => ?_)
    · refine s_iconst (v := nI 1) C dX8_count_166 (by decide) ?_
      refine s_iaddN C dX8_count_167 ?_
      rw [hQ]
      exact s_ireturn C hA dX8_count_168 (by rw [sp_count, if_neg (by decide), if_neg (by decide), if_neg (by decide), if_neg (by decide), if_pos (by decide)]; exact ⟨by (first | rw [if_pos h143] | rw [if_neg h143]); (first | rw [if_pos h159] | rw [if_neg h159]), hM⟩)
    · refine s_iconst (v := nI 0) C dX8_count_162 (by decide) ?_
      refine s_goto C 167 dX8_count_163 (by decide) ?_
      refine s_iaddN C dX8_count_167 ?_
      rw [hQ]
      exact s_ireturn C hA dX8_count_168 (by rw [sp_count, if_neg (by decide), if_neg (by decide), if_neg (by decide), if_neg (by decide), if_pos (by decide)]; exact ⟨by (first | rw [if_pos h143] | rw [if_neg h143]); (first | rw [if_pos h159] | rw [if_neg h159]), hM⟩)
  · refine s_iconst (v := nI 0) C dX8_count_146 (by decide) ?_
    refine s_goto C 151 dX8_count_147 (by decide) ?_
    refine s_aload_n C 1 dX8_count_151 rfl ?_
    refine s_getR C 8 12 (hM.1 _ _ _ rfl) (by decide) rfl (by decide) rfl (fun _ h => List.mem_cons_of_mem _ (List.mem_append_right _ h)) (by decide) rfl (by decide +kernel) dX8_count_152 ?_
    refine s_iconst (v := nI 1) C dX8_count_155 (by decide) ?_
    refine s_iaload C 2 (1) rfl rfl (by decide) (by decide) (by decide) rfl dX8_count_156 ?_
    refine s_toe (b := T 9 1) (hM.2 _ _ rfl) ?_
    refine s_ldc (v := (-1000000)) C (by decide +kernel) dX8_count_157 ?_
    refine s_icmp_ne C 166 dX8_count_159 (by decide) (fun h159 => ?_) (fun h159 => ?_)
    · refine s_iconst (v := nI 1) C dX8_count_166 (by decide) ?_
      refine s_iaddN C dX8_count_167 ?_
      rw [hQ]
      exact s_ireturn C hA dX8_count_168 (by rw [sp_count, if_neg (by decide), if_neg (by decide), if_neg (by decide), if_neg (by decide), if_pos (by decide)]; exact ⟨by (first | rw [if_pos h143] | rw [if_neg h143]); (first | rw [if_pos h159] | rw [if_neg h159]), hM⟩)
    · refine s_iconst (v := nI 0) C dX8_count_162 (by decide) ?_
      refine s_goto C 167 dX8_count_163 (by decide) ?_
      refine s_iaddN C dX8_count_167 ?_
      rw [hQ]
      exact s_ireturn C hA dX8_count_168 (by rw [sp_count, if_neg (by decide), if_neg (by decide), if_neg (by decide), if_neg (by decide), if_pos (by decide)]; exact ⟨by (first | rw [if_pos h143] | rw [if_neg h143]); (first | rw [if_pos h159] | rw [if_neg h159]), hM⟩)

set_option maxHeartbeats 4000000 in
set_option maxRecDepth 100000 in
theorem c_X8_count_o (l : Launch) (w : ih_Wd) (S : ih_Sg) (T : ih_TT) (hM : ih_RM S T) (hI : ih_Inv T) (w_ : Int32) (hw : w_.toInt < 0 ∨ 6 < w_.toInt) : ih_Ci l yX8_count wsX8_count 1 w ih_shM [.ref (w.2.2 0), .int w_] S (fun r S' => r = sp_count T w_ ∧ ih_RM S' T) := by
  refine ih_bodyi (ret := some .int) rfl rfl (Nat.le_of_ble_eq_true rfl) ?_
  intro x A hA C
  have C : ih_Ok x w A cX8_count 4 RX8 wsX8_count (ih_rm 1) (some .int) := C
  show ih_Mw x w ih_shM A (ih_Qi x w ih_shM A _) 4 0 0 0 [(0, .ref (w.2.2 0)), (1, .int w_)] [] S
  obtain ⟨Q, hQ⟩ : ∃ Q, Q = ih_Qi x w ih_shM A (fun r S' => r = sp_count T w_ ∧ ih_RM S' T) := ⟨_, rfl⟩
  rw [show ih_Qi x w ih_shM A _ = Q from hQ.symm]
  have hct : ih_ct T ≤ 12 := hI.2.1.2.1
  refine s_aload_n C 0 dX8_count_0 rfl ?_
  refine s_iconst (v := nI 0) C dX8_count_1 (by decide) ?_
  refine s_putI (ty := .int) C 8 0 tyX8 tyX8_ok nmX8 (by decide) rfl (by decide) rfl (fun _ h => List.mem_cons_of_mem _ (List.mem_append_right _ h)) (by decide) rfl (by decide +kernel) rfl (by decide +kernel) rfl rfl dX8_count_2 ?_
  refine m_hide hM rfl (fun S hM => ?_)
  refine s_iconst (v := nI 0) C dX8_count_5 (by decide) ?_
  refine s_istore_n (lv' := [(2, .int (nI 0)), (0, .ref (w.2.2 0)), (1, .int w_)]) C dX8_count_6 rfl (by decide) rfl ?_
  refine s_iload_n C 2 dX8_count_7 rfl ?_
  refine s_tableOut C 169 dX8_count_8 hw (by decide) ?_
  refine s_ldc (v := (-1000001)) C (by decide +kernel) dX8_count_169 ?_
  rw [hQ]
  exact s_ireturn C hA dX8_count_171 (by rw [sp_count, if_neg (ih_nw hw (by decide)), if_neg (ih_nw hw (by decide)), if_neg (by intro q; rcases q with q | q | q <;> exact ih_nw hw (by decide) q), if_neg (ih_nw hw (by decide)), if_neg (ih_nw hw (by decide))]; exact ⟨rfl, hM⟩)

theorem c_X8_count (l : Launch) (w : ih_Wd) (S : ih_Sg) (T : ih_TT) (hM : ih_RM S T) (hI : ih_Inv T) (w_ : Int32) : ih_Ci l yX8_count wsX8_count 1 w ih_shM [.ref (w.2.2 0), .int w_] S (fun r S' => r = sp_count T w_ ∧ ih_RM S' T) := by
  by_cases hw : w_.toInt < 0 ∨ 6 < w_.toInt
  · exact c_X8_count_o l w S T hM hI w_ hw
  · obtain ⟨n, hn, rfl, hnt⟩ := ih_nat (a := w_) (by omega)
    rcases (show n = 0 ∨ n = 1 ∨ n = 2 ∨ n = 3 ∨ n = 4 ∨ n = 5 ∨ n = 6 by omega) with rfl | rfl | rfl | rfl | rfl | rfl | rfl
    · exact c_X8_count_0 l w S T hM hI
    · exact c_X8_count_1 l w S T hM hI
    · exact c_X8_count_2 l w S T hM hI
    · exact c_X8_count_3 l w S T hM hI
    · exact c_X8_count_4 l w S T hM hI
    · exact c_X8_count_5 l w S T hM hI
    · exact c_X8_count_6 l w S T hM hI
