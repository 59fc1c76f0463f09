set_option maxHeartbeats 4000000 in
set_option maxRecDepth 100000 in
theorem c_X7_striker (l : Launch) (w : ih_Wd) (S : ih_Sg) (T : ih_TT) (hX : ih_RX S T) (hI : ih_Inv T) (a b c d e f : Int32) : ih_Ci l yX7_striker wsX7_striker 2 w ih_shX [.ref (w.2.2 0), .int a, .int b, .int c, .int d, .int e, .int f] S (fun r S' => r = (sp_striker T a b c d e f).1 ∧ ih_RX S' (sp_striker T a b c d e f).2) := by
  refine ih_bodyi (ret := some .int) rfl rfl (Nat.le_of_ble_eq_true rfl) ?_
  intro x A hA C
  have C : ih_Ok x w A cX7_striker 8 RX7 wsX7_striker (ih_rm 2) (some .int) := C
  show ih_Mw x w ih_shX A (ih_Qi x w ih_shX A _) 8 0 0 0 [(0, .ref (w.2.2 0)), (1, .int a), (2, .int b), (3, .int c), (4, .int d), (5, .int e), (6, .int f)] [] S
  have hct : ih_ct T ≤ 12 := hI.2.1.2.1
  have hp := hX.1
  refine s_iload_n C 1 dX7_striker_0 rfl ?_
  refine s_callSi 1 C (c_X7_isChance _ w _ _) gX7_striker_X7_isChance rfl (by decide +kernel) (by decide) (by decide) rfl rfl (Nat.le_of_ble_eq_true rfl) dX7_striker_1 ?_
  rintro rc1 S2 ⟨hrc1, hSS⟩
  obtain rfl := hSS.symm
  refine s_if_eq C 45 dX7_striker_4 (by decide) (fun h4 => ?_) (fun h4 => ?_)
  · replace h4 := ih_b0 hrc1 h4
    refine s_ldc (v := (-1000001)) C (by decide +kernel) dX7_striker_45 ?_
    exact s_ireturn C hA dX7_striker_47 (by rw [sp_striker, if_neg (by omega)]; exact ⟨rfl, hX⟩)
  · replace h4 := ih_b1 hrc1 h4
    refine s_iload_n C 2 dX7_striker_7 rfl ?_
    refine s_callSi 1 C (c_X7_isChance _ w _ _) gX7_striker_X7_isChance rfl (by decide +kernel) (by decide) (by decide) rfl rfl (Nat.le_of_ble_eq_true rfl) dX7_striker_8 ?_
    rintro rc8 S2 ⟨hrc8, hSS⟩
    obtain rfl := hSS.symm
    refine s_if_eq C 45 dX7_striker_11 (by decide) (fun h11 => ?_) (fun h11 => ?_)
    · replace h11 := ih_b0 hrc8 h11
      refine s_ldc (v := (-1000001)) C (by decide +kernel) dX7_striker_45 ?_
      exact s_ireturn C hA dX7_striker_47 (by rw [sp_striker, if_neg (by omega)]; exact ⟨rfl, hX⟩)
    · replace h11 := ih_b1 hrc8 h11
      refine s_iload_n C 3 dX7_striker_14 rfl ?_
      refine s_callSi 1 C (c_X7_isChance _ w _ _) gX7_striker_X7_isChance rfl (by decide +kernel) (by decide) (by decide) rfl rfl (Nat.le_of_ble_eq_true rfl) dX7_striker_15 ?_
      rintro rc15 S2 ⟨hrc15, hSS⟩
      obtain rfl := hSS.symm
      refine s_if_eq C 45 dX7_striker_18 (by decide) (fun h18 => ?_) (fun h18 => ?_)
      · replace h18 := ih_b0 hrc15 h18
        refine s_ldc (v := (-1000001)) C (by decide +kernel) dX7_striker_45 ?_
        exact s_ireturn C hA dX7_striker_47 (by rw [sp_striker, if_neg (by omega)]; exact ⟨rfl, hX⟩)
      · replace h18 := ih_b1 hrc15 h18
        refine s_iload C 4 dX7_striker_21 rfl ?_
        refine s_callSi 1 C (c_X7_isChance _ w _ _) gX7_striker_X7_isChance rfl (by decide +kernel) (by decide) (by decide) rfl rfl (Nat.le_of_ble_eq_true rfl) dX7_striker_23 ?_
        rintro rc23 S2 ⟨hrc23, hSS⟩
        obtain rfl := hSS.symm
        refine s_if_eq C 45 dX7_striker_26 (by decide) (fun h26 => ?_) (fun h26 => ?_)
        · replace h26 := ih_b0 hrc23 h26
          refine s_ldc (v := (-1000001)) C (by decide +kernel) dX7_striker_45 ?_
          exact s_ireturn C hA dX7_striker_47 (by rw [sp_striker, if_neg (by omega)]; exact ⟨rfl, hX⟩)
        · replace h26 := ih_b1 hrc23 h26
          refine s_iload C 5 dX7_striker_29 rfl ?_
          refine s_callSi 1 C (c_X7_isChance _ w _ _) gX7_striker_X7_isChance rfl (by decide +kernel) (by decide) (by decide) rfl rfl (Nat.le_of_ble_eq_true rfl) dX7_striker_31 ?_
          rintro rc31 S2 ⟨hrc31, hSS⟩
          obtain rfl := hSS.symm
          refine s_if_eq C 45 dX7_striker_34 (by decide) (fun h34 => ?_) (fun h34 => ?_)
          · replace h34 := ih_b0 hrc31 h34
            refine s_ldc (v := (-1000001)) C (by decide +kernel) dX7_striker_45 ?_
            exact s_ireturn C hA dX7_striker_47 (by rw [sp_striker, if_neg (by omega)]; exact ⟨rfl, hX⟩)
          · replace h34 := ih_b1 hrc31 h34
            refine s_iload C 6 dX7_striker_37 rfl ?_
            refine s_callSi 1 C (c_X7_isChance _ w _ _) gX7_striker_X7_isChance rfl (by decide +kernel) (by decide) (by decide) rfl rfl (Nat.le_of_ble_eq_true rfl) dX7_striker_39 ?_
            rintro rc39 S2 ⟨hrc39, hSS⟩
            obtain rfl := hSS.symm
            refine s_if_ne C 48 dX7_striker_42 (by decide) (fun h42 => ?_) (fun h42 => ?_)
            · replace h42 := ih_b1 hrc39 h42
              obtain ⟨an, han, rfl, hant⟩ := ih_nat (a := a) h4.1
              obtain ⟨bn, hbn, rfl, hbnt⟩ := ih_nat (a := b) h11.1
              obtain ⟨cn, hcn, rfl, hcnt⟩ := ih_nat (a := c) h18.1
              obtain ⟨dn, hdn, rfl, hdnt⟩ := ih_nat (a := d) h26.1
              obtain ⟨en, hen, rfl, hent⟩ := ih_nat (a := e) h34.1
              obtain ⟨fn_, hfn_, rfl, hfn_t⟩ := ih_nat (a := f) h42.1
              refine s_iload_n C 1 dX7_striker_48 rfl ?_
              refine s_iload_n C 2 dX7_striker_49 rfl ?_
              refine s_iaddN C dX7_striker_50 ?_
              refine s_iload_n C 3 dX7_striker_51 rfl ?_
              refine s_iaddN C dX7_striker_52 ?_
              refine s_iload C 4 dX7_striker_53 rfl ?_
              refine s_iaddN C dX7_striker_55 ?_
              refine s_iload C 5 dX7_striker_56 rfl ?_
              refine s_iaddN C dX7_striker_58 ?_
              refine s_sipush (v := nI 1000) C dX7_striker_59 (by decide) ?_
              refine s_icmp_leN 68 C dX7_striker_62 (by decide) (by omega) (by omega) (fun h62 => ?_) (fun h62 => ?_)
              · refine s_aload_n C 0 dX7_striker_68 rfl ?_
                refine s_getI C 7 2 (by decide) rfl (by decide) rfl (fun _ h => List.mem_cons_of_mem _ (List.mem_append_left _ (List.mem_append_right _ h))) (by decide) rfl (by decide +kernel) dX7_striker_69 ?_
                refine s_toe (ih_RX_ct hX hI) ?_
                refine s_bipush (v := nI 12) C dX7_striker_72 (by decide) ?_
                refine s_icmp_ltN 80 C dX7_striker_74 (by decide) (by omega) (by omega) (fun h74 => ?_) (fun h74 => ?_)
                · have hc12 : ih_ct T < 12 := by omega
                  refine s_aload_n C 0 dX7_striker_80 rfl ?_
                  refine s_getR C 7 1 (hp _ _ _ rfl) (by decide) rfl (by decide) rfl (fun _ h => List.mem_cons_of_mem _ (List.mem_append_left _ (List.mem_append_right _ h))) (by decide) rfl (by decide +kernel) dX7_striker_81 ?_
                  refine s_aload_n C 0 dX7_striker_84 rfl ?_
                  refine s_getI C 7 2 (by decide) rfl (by decide) rfl (fun _ h => List.mem_cons_of_mem _ (List.mem_append_left _ (List.mem_append_right _ h))) (by decide) rfl (by decide +kernel) dX7_striker_85 ?_
                  refine s_toe (ih_RX_ct hX hI) ?_
                  refine s_aaload C 12 (ih_ct T) (hp _ _ _ (ih_pX_st hc12)) rfl rfl (by omega) (by decide) (by decide) rfl (by decide) dX7_striker_88 ?_
                  refine s_astore (lv' := [(7, .ref (w.2.2 (19 + 2 * (ih_ct T)))), (0, .ref (w.2.2 0)), (1, .int (nI an)), (2, .int (nI bn)), (3, .int (nI cn)), (4, .int (nI dn)), (5, .int (nI en)), (6, .int (nI fn_))]) C dX7_striker_89 (by decide) rfl ?_
                  refine s_aload C 0 dX7_striker_91 rfl ?_
                  refine s_getR C 6 0 (hp _ _ _ (ih_pX_ch hc12)) (by show 19 + 2 * (ih_ct T) < 62; omega) (ih_kX_st hc12) (by decide) rfl (fun _ h => List.mem_cons_of_mem _ (List.mem_append_right _ h)) (by decide) rfl (by decide +kernel) dX7_striker_93 ?_
                  refine s_iconst (v := nI 1) C dX7_striker_96 (by decide) ?_
                  refine s_iload_n C 2 dX7_striker_97 rfl ?_
                  refine s_iastore C 6 (1) rfl (ih_lX_ch hc12) (by decide) (by decide) (by show 20 + 2 * (ih_ct T) < 62; omega) (ih_kX_ch hc12) dX7_striker_98 ?_
                  refine s_aload C 0 dX7_striker_99 rfl ?_
                  refine s_getR C 6 0 (hp _ _ _ (ih_pX_ch hc12)) (by show 19 + 2 * (ih_ct T) < 62; omega) (ih_kX_st hc12) (by decide) rfl (fun _ h => List.mem_cons_of_mem _ (List.mem_append_right _ h)) (by decide) rfl (by decide +kernel) dX7_striker_101 ?_
                  refine s_iconst (v := nI 2) C dX7_striker_104 (by decide) ?_
                  refine s_iload_n C 3 dX7_striker_105 rfl ?_
                  refine s_iastore C 6 (2) rfl (ih_lX_ch hc12) (by decide) (by decide) (by show 20 + 2 * (ih_ct T) < 62; omega) (ih_kX_ch hc12) dX7_striker_106 ?_
                  refine s_aload C 0 dX7_striker_107 rfl ?_
                  refine s_getR C 6 0 (hp _ _ _ (ih_pX_ch hc12)) (by show 19 + 2 * (ih_ct T) < 62; omega) (ih_kX_st hc12) (by decide) rfl (fun _ h => List.mem_cons_of_mem _ (List.mem_append_right _ h)) (by decide) rfl (by decide +kernel) dX7_striker_109 ?_
                  refine s_iconst (v := nI 3) C dX7_striker_112 (by decide) ?_
                  refine s_iload_n C 4 dX7_striker_113 rfl ?_
                  refine s_iastore C 6 (3) rfl (ih_lX_ch hc12) (by decide) (by decide) (by show 20 + 2 * (ih_ct T) < 62; omega) (ih_kX_ch hc12) dX7_striker_114 ?_
                  refine s_aload C 0 dX7_striker_115 rfl ?_
                  refine s_getR C 6 0 (hp _ _ _ (ih_pX_ch hc12)) (by show 19 + 2 * (ih_ct T) < 62; omega) (ih_kX_st hc12) (by decide) rfl (fun _ h => List.mem_cons_of_mem _ (List.mem_append_right _ h)) (by decide) rfl (by decide +kernel) dX7_striker_117 ?_
                  refine s_iconst (v := nI 4) C dX7_striker_120 (by decide) ?_
                  refine s_iload C 5 dX7_striker_121 rfl ?_
                  refine s_iastore C 6 (4) rfl (ih_lX_ch hc12) (by decide) (by decide) (by show 20 + 2 * (ih_ct T) < 62; omega) (ih_kX_ch hc12) dX7_striker_123 ?_
                  refine s_aload C 0 dX7_striker_124 rfl ?_
                  refine s_getR C 6 0 (hp _ _ _ (ih_pX_ch hc12)) (by show 19 + 2 * (ih_ct T) < 62; omega) (ih_kX_st hc12) (by decide) rfl (fun _ h => List.mem_cons_of_mem _ (List.mem_append_right _ h)) (by decide) rfl (by decide +kernel) dX7_striker_126 ?_
                  refine s_iconst (v := nI 5) C dX7_striker_129 (by decide) ?_
                  refine s_iload C 6 dX7_striker_130 rfl ?_
                  refine s_iastore C 6 (5) rfl (ih_lX_ch hc12) (by decide) (by decide) (by show 20 + 2 * (ih_ct T) < 62; omega) (ih_kX_ch hc12) dX7_striker_132 ?_
                  refine s_aload C 0 dX7_striker_133 rfl ?_
                  refine s_callVv 0 C (c_X6_giveTheRestToOut _ w (ih_sI (ih_sI (ih_sI (ih_sI (ih_sI S (20 + 2 * ih_ct T) 1 (nI an)) (20 + 2 * ih_ct T) 2 (nI bn)) (20 + 2 * ih_ct T) 3 (nI cn)) (20 + 2 * ih_ct T) 4 (nI dn)) (20 + 2 * ih_ct T) 5 (nI en)) hp (ih_ct T) hc12) gX7_striker_X6_giveTheRestToOut rfl (by decide +kernel) (by decide) (by decide) (by show 19 + 2 * (ih_ct T) < 62; omega) (ih_kX_st hc12) (by decide) rfl rfl rfl (Nat.le_of_ble_eq_true rfl) dX7_striker_135 ?_
                  rintro S4 hS4
                  subst hS4
                  refine s_aload C 0 dX7_striker_138 rfl ?_
                  refine s_iload C 7 dX7_striker_140 rfl ?_
                  refine s_putI (ty := .int) C 6 1 tyX6 tyX6_ok nmX6 (by show 19 + 2 * (ih_ct T) < 62; omega) (ih_kX_st hc12) (by decide) rfl (fun _ h => List.mem_cons_of_mem _ (List.mem_append_right _ h)) (by decide) rfl (by decide +kernel) rfl (by decide +kernel) rfl rfl dX7_striker_142 ?_
                  refine s_aload_n C 1 dX7_striker_145 rfl ?_
                  refine s_callVi 0 C (c_X7_admitted _ w _ (ih_ct T) (by rw [ih_sI_row (by omega), ih_sI_row (by omega), ih_sI_row (by omega), ih_sI_row (by omega), ih_sI_row (by omega), ih_sI_row (by omega), ih_sI_row (by omega)]; exact ih_RX_ct hX hI)) gX7_striker_X7_admitted rfl (by decide +kernel) (by decide) (by decide) (by decide) rfl (by decide) rfl rfl rfl (Nat.le_of_ble_eq_true rfl) dX7_striker_146 ?_
                  rintro rr S5 ⟨hrr, hS5⟩
                  exact s_ireturn C hA dX7_striker_149 (by
                            have hkk : rx_k (ih_sI (ih_sI (ih_sI (ih_sI (ih_sI S (20 + 2 * ih_ct T) 1 (nI an)) (20 + 2 * ih_ct T) 2 (nI bn)) (20 + 2 * ih_ct T) 3 (nI cn)) (20 + 2 * ih_ct T) 4 (nI dn)) (20 + 2 * ih_ct T) 5 (nI en)).1 (ih_u2 (ih_u2 (ih_u2 (ih_u2 (ih_u2 T 4 (7 * ih_ct T + 1) (nI an)) 4 (7 * ih_ct T + 2) (nI bn)) 4 (7 * ih_ct T + 3) (nI cn)) 4 (7 * ih_ct T + 4) (nI dn)) 4 (7 * ih_ct T + 5) (nI en)) := rx_k_w (rx_k_w (rx_k_w (rx_k_w (rx_k_w hX.2.2.2.2.2.1 hc12 (by decide) _) hc12 (by decide) _) hc12 (by decide) _) hc12 (by decide) _) hc12 (by decide) _
                            have hnew := ih_RX_new (S := S) (W := (ih_sI (ih_sI (ih_sI (ih_sI (ih_sI S (20 + 2 * ih_ct T) 1 (nI an)) (20 + 2 * ih_ct T) 2 (nI bn)) (20 + 2 * ih_ct T) 3 (nI cn)) (20 + 2 * ih_ct T) 4 (nI dn)) (20 + 2 * ih_ct T) 5 (nI en))) (T := T) (X := (ih_u2 (ih_u2 (ih_u2 (ih_u2 (ih_u2 T 4 (7 * ih_ct T + 1) (nI an)) 4 (7 * ih_ct T + 2) (nI bn)) 4 (7 * ih_ct T + 3) (nI cn)) 4 (7 * ih_ct T + 4) (nI dn)) 4 (7 * ih_ct T + 5) (nI en))) (c := ih_ct T) hX hI rfl hc12 rfl (fun k hk => by rw [ih_sI_row hk, ih_sI_row hk, ih_sI_row hk, ih_sI_row hk, ih_sI_row hk]) hkk (fun k hk => by rw [ih_u2_row hk, ih_u2_row hk, ih_u2_row hk, ih_u2_row hk, ih_u2_row hk]) (fun j hj => by rw [ih_u2_j (by omega), ih_u2_j (by omega), ih_u2_j (by omega), ih_u2_j (by omega), ih_u2_j (by omega)]) (nI fn_)
                            rw [sp_striker, if_pos (by omega), if_neg (by omega)]; exact ⟨hrr, by rw [hS5]; exact hnew⟩)
                · refine s_ldc (v := (-1000003)) C (by decide +kernel) dX7_striker_77 ?_
                  exact s_ireturn C hA dX7_striker_79 (by rw [sp_striker, if_pos (by omega), if_pos (by omega)]; exact ⟨rfl, hX⟩)
              · refine s_ldc (v := (-1000001)) C (by decide +kernel) dX7_striker_65 ?_
                exact s_ireturn C hA dX7_striker_67 (by rw [sp_striker, if_neg (by omega)]; exact ⟨rfl, hX⟩)
            · replace h42 := ih_b0 hrc39 h42
              refine s_ldc (v := (-1000001)) C (by decide +kernel) dX7_striker_45 ?_
              exact s_ireturn C hA dX7_striker_47 (by rw [sp_striker, if_neg (by omega)]; exact ⟨rfl, hX⟩)

